theorem dL_law__1637 : decode cL_law_ 1637 = .ok (.iadd, 1) := by decide +kernel
theorem dL_law__1638 : decode cL_law_ 1638 = .ok (.iaload, 1) := by decide +kernel
theorem dL_law__1639 : decode cL_law_ 1639 = .ok (.invokevirtual 183, 3) := by decide +kernel
theorem dL_law__1642 : decode cL_law_ 1642 = .ok (.istore 6, 2) := by decide +kernel
theorem dL_law__1644 : decode cL_law_ 1644 = .ok (.aload_n 2, 1) := by decide +kernel
theorem dL_law__1645 : decode cL_law_ 1645 = .ok (.invokevirtual 124, 3) := by decide +kernel
theorem dL_law__1648 : decode cL_law_ 1648 = .ok (.iload 5, 2) := by decide +kernel
theorem dL_law__1650 : decode cL_law_ 1650 = .ok (.if_icmp .eq 5, 3) := by decide +kernel
theorem dL_law__1653 : decode cL_law_ 1653 = .ok (.iconst 0, 1) := by decide +kernel
theorem dL_law__1654 : decode cL_law_ 1654 = .ok (.ireturn, 1) := by decide +kernel
theorem dL_law__1655 : decode cL_law_ 1655 = .ok (.iload 5, 2) := by decide +kernel
theorem dL_law__1657 : decode cL_law_ 1657 = .ok (.ifCond .ne 15, 3) := by decide +kernel
theorem dL_law__1660 : decode cL_law_ 1660 = .ok (.aload_n 3, 1) := by decide +kernel
theorem dL_law__1661 : decode cL_law_ 1661 = .ok (.iconst 0, 1) := by decide +kernel
theorem dL_law__1662 : decode cL_law_ 1662 = .ok (.laload, 1) := by decide +kernel
theorem dL_law__1663 : decode cL_law_ 1663 = .ok (.iload 6, 2) := by decide +kernel
theorem dL_law__1665 : decode cL_law_ 1665 = .ok (.i2l, 1) := by decide +kernel
theorem dL_law__1666 : decode cL_law_ 1666 = .ok (.lcmp, 1) := by decide +kernel
theorem dL_law__1667 : decode cL_law_ 1667 = .ok (.ifCond .eq 5, 3) := by decide +kernel
theorem dL_law__1670 : decode cL_law_ 1670 = .ok (.iconst 0, 1) := by decide +kernel
theorem dL_law__1671 : decode cL_law_ 1671 = .ok (.ireturn, 1) := by decide +kernel
theorem dL_law__1672 : decode cL_law_ 1672 = .ok (.goto 967, 3) := by decide +kernel
theorem dL_law__1675 : decode cL_law_ 1675 = .ok (.aload_n 1, 1) := by decide +kernel
theorem dL_law__1676 : decode cL_law_ 1676 = .ok (.aload_n 0, 1) := by decide +kernel
theorem dL_law__1677 : decode cL_law_ 1677 = .ok (.iload 4, 2) := by decide +kernel
theorem dL_law__1679 : decode cL_law_ 1679 = .ok (.iconst 1, 1) := by decide +kernel
theorem dL_law__1680 : decode cL_law_ 1680 = .ok (.iadd, 1) := by decide +kernel
theorem dL_law__1681 : decode cL_law_ 1681 = .ok (.iaload, 1) := by decide +kernel
theorem dL_law__1682 : decode cL_law_ 1682 = .ok (.aload_n 0, 1) := by decide +kernel
theorem dL_law__1683 : decode cL_law_ 1683 = .ok (.iload 4, 2) := by decide +kernel
theorem dL_law__1685 : decode cL_law_ 1685 = .ok (.iconst 2, 1) := by decide +kernel
theorem dL_law__1686 : decode cL_law_ 1686 = .ok (.iadd, 1) := by decide +kernel
theorem dL_law__1687 : decode cL_law_ 1687 = .ok (.iaload, 1) := by decide +kernel
theorem dL_law__1688 : decode cL_law_ 1688 = .ok (.aload_n 0, 1) := by decide +kernel
theorem dL_law__1689 : decode cL_law_ 1689 = .ok (.iload 4, 2) := by decide +kernel
theorem dL_law__1691 : decode cL_law_ 1691 = .ok (.iconst 3, 1) := by decide +kernel
theorem dL_law__1692 : decode cL_law_ 1692 = .ok (.iadd, 1) := by decide +kernel
theorem dL_law__1693 : decode cL_law_ 1693 = .ok (.iaload, 1) := by decide +kernel
theorem dL_law__1694 : decode cL_law_ 1694 = .ok (.aload_n 3, 1) := by decide +kernel
theorem dL_law__1695 : decode cL_law_ 1695 = .ok (.invokestatic 184, 3) := by decide +kernel
theorem dL_law__1698 : decode cL_law_ 1698 = .ok (.istore 5, 2) := by decide +kernel
theorem dL_law__1700 : decode cL_law_ 1700 = .ok (.aload_n 2, 1) := by decide +kernel
theorem dL_law__1701 : decode cL_law_ 1701 = .ok (.aload_n 0, 1) := by decide +kernel
theorem dL_law__1702 : decode cL_law_ 1702 = .ok (.iload 4, 2) := by decide +kernel
theorem dL_law__1704 : decode cL_law_ 1704 = .ok (.iconst 1, 1) := by decide +kernel
theorem dL_law__1705 : decode cL_law_ 1705 = .ok (.iadd, 1) := by decide +kernel
theorem dL_law__1706 : decode cL_law_ 1706 = .ok (.iaload, 1) := by decide +kernel
theorem dL_law__1707 : decode cL_law_ 1707 = .ok (.aload_n 0, 1) := by decide +kernel
theorem dL_law__1708 : decode cL_law_ 1708 = .ok (.iload 4, 2) := by decide +kernel
theorem dL_law__1710 : decode cL_law_ 1710 = .ok (.iconst 2, 1) := by decide +kernel
theorem dL_law__1711 : decode cL_law_ 1711 = .ok (.iadd, 1) := by decide +kernel
theorem dL_law__1712 : decode cL_law_ 1712 = .ok (.iaload, 1) := by decide +kernel
theorem dL_law__1713 : decode cL_law_ 1713 = .ok (.aload_n 0, 1) := by decide +kernel
theorem dL_law__1714 : decode cL_law_ 1714 = .ok (.iload 4, 2) := by decide +kernel
theorem dL_law__1716 : decode cL_law_ 1716 = .ok (.iconst 3, 1) := by decide +kernel
theorem dL_law__1717 : decode cL_law_ 1717 = .ok (.iadd, 1) := by decide +kernel
theorem dL_law__1718 : decode cL_law_ 1718 = .ok (.iaload, 1) := by decide +kernel
theorem dL_law__1719 : decode cL_law_ 1719 = .ok (.invokevirtual 186, 3) := by decide +kernel
theorem dL_law__1722 : decode cL_law_ 1722 = .ok (.istore 6, 2) := by decide +kernel
theorem dL_law__1724 : decode cL_law_ 1724 = .ok (.aload_n 2, 1) := by decide +kernel
theorem dL_law__1725 : decode cL_law_ 1725 = .ok (.invokevirtual 124, 3) := by decide +kernel
theorem dL_law__1728 : decode cL_law_ 1728 = .ok (.iload 5, 2) := by decide +kernel
theorem dL_law__1730 : decode cL_law_ 1730 = .ok (.if_icmp .eq 5, 3) := by decide +kernel
theorem dL_law__1733 : decode cL_law_ 1733 = .ok (.iconst 0, 1) := by decide +kernel
theorem dL_law__1734 : decode cL_law_ 1734 = .ok (.ireturn, 1) := by decide +kernel
theorem dL_law__1735 : decode cL_law_ 1735 = .ok (.iload 5, 2) := by decide +kernel
theorem dL_law__1737 : decode cL_law_ 1737 = .ok (.ifCond .ne 15, 3) := by decide +kernel
theorem dL_law__1740 : decode cL_law_ 1740 = .ok (.aload_n 3, 1) := by decide +kernel
theorem dL_law__1741 : decode cL_law_ 1741 = .ok (.iconst 0, 1) := by decide +kernel
theorem dL_law__1742 : decode cL_law_ 1742 = .ok (.laload, 1) := by decide +kernel
theorem dL_law__1743 : decode cL_law_ 1743 = .ok (.iload 6, 2) := by decide +kernel
theorem dL_law__1745 : decode cL_law_ 1745 = .ok (.i2l, 1) := by decide +kernel
theorem dL_law__1746 : decode cL_law_ 1746 = .ok (.lcmp, 1) := by decide +kernel
theorem dL_law__1747 : decode cL_law_ 1747 = .ok (.ifCond .eq 5, 3) := by decide +kernel
theorem dL_law__1750 : decode cL_law_ 1750 = .ok (.iconst 0, 1) := by decide +kernel
theorem dL_law__1751 : decode cL_law_ 1751 = .ok (.ireturn, 1) := by decide +kernel
theorem dL_law__1752 : decode cL_law_ 1752 = .ok (.goto 887, 3) := by decide +kernel
theorem dL_law__1755 : decode cL_law_ 1755 = .ok (.aload_n 1, 1) := by decide +kernel
theorem dL_law__1756 : decode cL_law_ 1756 = .ok (.aload_n 0, 1) := by decide +kernel
theorem dL_law__1757 : decode cL_law_ 1757 = .ok (.iload 4, 2) := by decide +kernel
theorem dL_law__1759 : decode cL_law_ 1759 = .ok (.iconst 1, 1) := by decide +kernel
theorem dL_law__1760 : decode cL_law_ 1760 = .ok (.iadd, 1) := by decide +kernel
theorem dL_law__1761 : decode cL_law_ 1761 = .ok (.iaload, 1) := by decide +kernel
theorem dL_law__1762 : decode cL_law_ 1762 = .ok (.aload_n 0, 1) := by decide +kernel
theorem dL_law__1763 : decode cL_law_ 1763 = .ok (.iload 4, 2) := by decide +kernel
theorem dL_law__1765 : decode cL_law_ 1765 = .ok (.iconst 2, 1) := by decide +kernel
theorem dL_law__1766 : decode cL_law_ 1766 = .ok (.iadd, 1) := by decide +kernel
theorem dL_law__1767 : decode cL_law_ 1767 = .ok (.iaload, 1) := by decide +kernel
theorem dL_law__1768 : decode cL_law_ 1768 = .ok (.aload_n 3, 1) := by decide +kernel
theorem dL_law__1769 : decode cL_law_ 1769 = .ok (.invokestatic 187, 3) := by decide +kernel
theorem dL_law__1772 : decode cL_law_ 1772 = .ok (.istore 5, 2) := by decide +kernel
theorem dL_law__1774 : decode cL_law_ 1774 = .ok (.aload_n 2, 1) := by decide +kernel
theorem dL_law__1775 : decode cL_law_ 1775 = .ok (.aload_n 0, 1) := by decide +kernel
theorem dL_law__1776 : decode cL_law_ 1776 = .ok (.iload 4, 2) := by decide +kernel
theorem dL_law__1778 : decode cL_law_ 1778 = .ok (.iconst 1, 1) := by decide +kernel
theorem dL_law__1779 : decode cL_law_ 1779 = .ok (.iadd, 1) := by decide +kernel
theorem dL_law__1780 : decode cL_law_ 1780 = .ok (.iaload, 1) := by decide +kernel
theorem dL_law__1781 : decode cL_law_ 1781 = .ok (.aload_n 0, 1) := by decide +kernel
theorem dL_law__1782 : decode cL_law_ 1782 = .ok (.iload 4, 2) := by decide +kernel
theorem dL_law__1784 : decode cL_law_ 1784 = .ok (.iconst 2, 1) := by decide +kernel
theorem dL_law__1785 : decode cL_law_ 1785 = .ok (.iadd, 1) := by decide +kernel
theorem dL_law__1786 : decode cL_law_ 1786 = .ok (.iaload, 1) := by decide +kernel
theorem dL_law__1787 : decode cL_law_ 1787 = .ok (.invokevirtual 189, 3) := by decide +kernel
theorem dL_law__1790 : decode cL_law_ 1790 = .ok (.istore 6, 2) := by decide +kernel
theorem dL_law__1792 : decode cL_law_ 1792 = .ok (.aload_n 2, 1) := by decide +kernel
theorem dL_law__1793 : decode cL_law_ 1793 = .ok (.invokevirtual 124, 3) := by decide +kernel
theorem dL_law__1796 : decode cL_law_ 1796 = .ok (.iload 5, 2) := by decide +kernel
theorem dL_law__1798 : decode cL_law_ 1798 = .ok (.if_icmp .eq 5, 3) := by decide +kernel
theorem dL_law__1801 : decode cL_law_ 1801 = .ok (.iconst 0, 1) := by decide +kernel
theorem dL_law__1802 : decode cL_law_ 1802 = .ok (.ireturn, 1) := by decide +kernel
theorem dL_law__1803 : decode cL_law_ 1803 = .ok (.iload 5, 2) := by decide +kernel
theorem dL_law__1805 : decode cL_law_ 1805 = .ok (.ifCond .ne 22, 3) := by decide +kernel
theorem dL_law__1808 : decode cL_law_ 1808 = .ok (.aload_n 3, 1) := by decide +kernel
theorem dL_law__1809 : decode cL_law_ 1809 = .ok (.iconst 0, 1) := by decide +kernel
theorem dL_law__1810 : decode cL_law_ 1810 = .ok (.laload, 1) := by decide +kernel
theorem dL_law__1811 : decode cL_law_ 1811 = .ok (.iload 6, 2) := by decide +kernel
theorem dL_law__1813 : decode cL_law_ 1813 = .ok (.ifCond .eq 7, 3) := by decide +kernel
theorem dL_law__1816 : decode cL_law_ 1816 = .ok (.lconst 1, 1) := by decide +kernel
theorem dL_law__1817 : decode cL_law_ 1817 = .ok (.goto 4, 3) := by decide +kernel
theorem dL_law__1820 : decode cL_law_ 1820 = .ok (.lconst 0, 1) := by decide +kernel
theorem dL_law__1821 : decode cL_law_ 1821 = .ok (.lcmp, 1) := by decide +kernel
theorem dL_law__1822 : decode cL_law_ 1822 = .ok (.ifCond .eq 5, 3) := by decide +kernel
theorem dL_law__1825 : decode cL_law_ 1825 = .ok (.iconst 0, 1) := by decide +kernel
theorem dL_law__1826 : decode cL_law_ 1826 = .ok (.ireturn, 1) := by decide +kernel
theorem dL_law__1827 : decode cL_law_ 1827 = .ok (.goto 812, 3) := by decide +kernel
theorem dL_law__1830 : decode cL_law_ 1830 = .ok (.aload_n 1, 1) := by decide +kernel
theorem dL_law__1831 : decode cL_law_ 1831 = .ok (.aload_n 0, 1) := by decide +kernel
theorem dL_law__1832 : decode cL_law_ 1832 = .ok (.iload 4, 2) := by decide +kernel
theorem dL_law__1834 : decode cL_law_ 1834 = .ok (.iconst 1, 1) := by decide +kernel
theorem dL_law__1835 : decode cL_law_ 1835 = .ok (.iadd, 1) := by decide +kernel
theorem dL_law__1836 : decode cL_law_ 1836 = .ok (.iaload, 1) := by decide +kernel
theorem dL_law__1837 : decode cL_law_ 1837 = .ok (.aload_n 0, 1) := by decide +kernel
theorem dL_law__1838 : decode cL_law_ 1838 = .ok (.iload 4, 2) := by decide +kernel
theorem dL_law__1840 : decode cL_law_ 1840 = .ok (.iconst 2, 1) := by decide +kernel
theorem dL_law__1841 : decode cL_law_ 1841 = .ok (.iadd, 1) := by decide +kernel
theorem dL_law__1842 : decode cL_law_ 1842 = .ok (.iaload, 1) := by decide +kernel
theorem dL_law__1843 : decode cL_law_ 1843 = .ok (.aload_n 3, 1) := by decide +kernel
theorem dL_law__1844 : decode cL_law_ 1844 = .ok (.invokestatic 190, 3) := by decide +kernel
theorem dL_law__1847 : decode cL_law_ 1847 = .ok (.istore 5, 2) := by decide +kernel
theorem dL_law__1849 : decode cL_law_ 1849 = .ok (.aload_n 2, 1) := by decide +kernel
theorem dL_law__1850 : decode cL_law_ 1850 = .ok (.aload_n 0, 1) := by decide +kernel
theorem dL_law__1851 : decode cL_law_ 1851 = .ok (.iload 4, 2) := by decide +kernel
theorem dL_law__1853 : decode cL_law_ 1853 = .ok (.iconst 1, 1) := by decide +kernel
theorem dL_law__1854 : decode cL_law_ 1854 = .ok (.iadd, 1) := by decide +kernel
theorem dL_law__1855 : decode cL_law_ 1855 = .ok (.iaload, 1) := by decide +kernel
theorem dL_law__1856 : decode cL_law_ 1856 = .ok (.aload_n 0, 1) := by decide +kernel
theorem dL_law__1857 : decode cL_law_ 1857 = .ok (.iload 4, 2) := by decide +kernel
theorem dL_law__1859 : decode cL_law_ 1859 = .ok (.iconst 2, 1) := by decide +kernel
theorem dL_law__1860 : decode cL_law_ 1860 = .ok (.iadd, 1) := by decide +kernel
theorem dL_law__1861 : decode cL_law_ 1861 = .ok (.iaload, 1) := by decide +kernel
theorem dL_law__1862 : decode cL_law_ 1862 = .ok (.invokevirtual 192, 3) := by decide +kernel
theorem dL_law__1865 : decode cL_law_ 1865 = .ok (.istore 6, 2) := by decide +kernel
theorem dL_law__1867 : decode cL_law_ 1867 = .ok (.aload_n 2, 1) := by decide +kernel
theorem dL_law__1868 : decode cL_law_ 1868 = .ok (.invokevirtual 124, 3) := by decide +kernel
theorem dL_law__1871 : decode cL_law_ 1871 = .ok (.iload 5, 2) := by decide +kernel
theorem dL_law__1873 : decode cL_law_ 1873 = .ok (.if_icmp .eq 5, 3) := by decide +kernel
theorem dL_law__1876 : decode cL_law_ 1876 = .ok (.iconst 0, 1) := by decide +kernel
theorem dL_law__1877 : decode cL_law_ 1877 = .ok (.ireturn, 1) := by decide +kernel
theorem dL_law__1878 : decode cL_law_ 1878 = .ok (.iload 5, 2) := by decide +kernel
theorem dL_law__1880 : decode cL_law_ 1880 = .ok (.ifCond .ne 15, 3) := by decide +kernel
theorem dL_law__1883 : decode cL_law_ 1883 = .ok (.aload_n 3, 1) := by decide +kernel
theorem dL_law__1884 : decode cL_law_ 1884 = .ok (.iconst 0, 1) := by decide +kernel
theorem dL_law__1885 : decode cL_law_ 1885 = .ok (.laload, 1) := by decide +kernel
theorem dL_law__1886 : decode cL_law_ 1886 = .ok (.iload 6, 2) := by decide +kernel
theorem dL_law__1888 : decode cL_law_ 1888 = .ok (.i2l, 1) := by decide +kernel
theorem dL_law__1889 : decode cL_law_ 1889 = .ok (.lcmp, 1) := by decide +kernel
theorem dL_law__1890 : decode cL_law_ 1890 = .ok (.ifCond .eq 5, 3) := by decide +kernel
theorem dL_law__1893 : decode cL_law_ 1893 = .ok (.iconst 0, 1) := by decide +kernel
theorem dL_law__1894 : decode cL_law_ 1894 = .ok (.ireturn, 1) := by decide +kernel
theorem dL_law__1895 : decode cL_law_ 1895 = .ok (.goto 744, 3) := by decide +kernel
theorem dL_law__1898 : decode cL_law_ 1898 = .ok (.aload_n 1, 1) := by decide +kernel
theorem dL_law__1899 : decode cL_law_ 1899 = .ok (.aload_n 0, 1) := by decide +kernel
theorem dL_law__1900 : decode cL_law_ 1900 = .ok (.iload 4, 2) := by decide +kernel
theorem dL_law__1902 : decode cL_law_ 1902 = .ok (.iconst 1, 1) := by decide +kernel
theorem dL_law__1903 : decode cL_law_ 1903 = .ok (.iadd, 1) := by decide +kernel
theorem dL_law__1904 : decode cL_law_ 1904 = .ok (.iaload, 1) := by decide +kernel
theorem dL_law__1905 : decode cL_law_ 1905 = .ok (.aload_n 0, 1) := by decide +kernel
theorem dL_law__1906 : decode cL_law_ 1906 = .ok (.iload 4, 2) := by decide +kernel
theorem dL_law__1908 : decode cL_law_ 1908 = .ok (.iconst 2, 1) := by decide +kernel
theorem dL_law__1909 : decode cL_law_ 1909 = .ok (.iadd, 1) := by decide +kernel
theorem dL_law__1910 : decode cL_law_ 1910 = .ok (.iaload, 1) := by decide +kernel
theorem dL_law__1911 : decode cL_law_ 1911 = .ok (.aload_n 3, 1) := by decide +kernel
theorem dL_law__1912 : decode cL_law_ 1912 = .ok (.invokestatic 193, 3) := by decide +kernel
theorem dL_law__1915 : decode cL_law_ 1915 = .ok (.istore 5, 2) := by decide +kernel
theorem dL_law__1917 : decode cL_law_ 1917 = .ok (.aload_n 2, 1) := by decide +kernel
theorem dL_law__1918 : decode cL_law_ 1918 = .ok (.aload_n 0, 1) := by decide +kernel
theorem dL_law__1919 : decode cL_law_ 1919 = .ok (.iload 4, 2) := by decide +kernel
theorem dL_law__1921 : decode cL_law_ 1921 = .ok (.iconst 1, 1) := by decide +kernel
theorem dL_law__1922 : decode cL_law_ 1922 = .ok (.iadd, 1) := by decide +kernel
theorem dL_law__1923 : decode cL_law_ 1923 = .ok (.iaload, 1) := by decide +kernel
theorem dL_law__1924 : decode cL_law_ 1924 = .ok (.aload_n 0, 1) := by decide +kernel
theorem dL_law__1925 : decode cL_law_ 1925 = .ok (.iload 4, 2) := by decide +kernel
theorem dL_law__1927 : decode cL_law_ 1927 = .ok (.iconst 2, 1) := by decide +kernel
theorem dL_law__1928 : decode cL_law_ 1928 = .ok (.iadd, 1) := by decide +kernel
theorem dL_law__1929 : decode cL_law_ 1929 = .ok (.iaload, 1) := by decide +kernel
theorem dL_law__1930 : decode cL_law_ 1930 = .ok (.invokevirtual 195, 3) := by decide +kernel
theorem dL_law__1933 : decode cL_law_ 1933 = .ok (.istore 6, 2) := by decide +kernel
theorem dL_law__1935 : decode cL_law_ 1935 = .ok (.aload_n 2, 1) := by decide +kernel
theorem dL_law__1936 : decode cL_law_ 1936 = .ok (.invokevirtual 124, 3) := by decide +kernel
theorem dL_law__1939 : decode cL_law_ 1939 = .ok (.iload 5, 2) := by decide +kernel
theorem dL_law__1941 : decode cL_law_ 1941 = .ok (.if_icmp .eq 5, 3) := by decide +kernel
theorem dL_law__1944 : decode cL_law_ 1944 = .ok (.iconst 0, 1) := by decide +kernel
theorem dL_law__1945 : decode cL_law_ 1945 = .ok (.ireturn, 1) := by decide +kernel
theorem dL_law__1946 : decode cL_law_ 1946 = .ok (.iload 5, 2) := by decide +kernel
theorem dL_law__1948 : decode cL_law_ 1948 = .ok (.ifCond .ne 15, 3) := by decide +kernel
theorem dL_law__1951 : decode cL_law_ 1951 = .ok (.aload_n 3, 1) := by decide +kernel
theorem dL_law__1952 : decode cL_law_ 1952 = .ok (.iconst 0, 1) := by decide +kernel
theorem dL_law__1953 : decode cL_law_ 1953 = .ok (.laload, 1) := by decide +kernel
theorem dL_law__1954 : decode cL_law_ 1954 = .ok (.iload 6, 2) := by decide +kernel
theorem dL_law__1956 : decode cL_law_ 1956 = .ok (.i2l, 1) := by decide +kernel
theorem dL_law__1957 : decode cL_law_ 1957 = .ok (.lcmp, 1) := by decide +kernel
theorem dL_law__1958 : decode cL_law_ 1958 = .ok (.ifCond .eq 5, 3) := by decide +kernel
theorem dL_law__1961 : decode cL_law_ 1961 = .ok (.iconst 0, 1) := by decide +kernel
theorem dL_law__1962 : decode cL_law_ 1962 = .ok (.ireturn, 1) := by decide +kernel
theorem dL_law__1963 : decode cL_law_ 1963 = .ok (.goto 676, 3) := by decide +kernel
theorem dL_law__1966 : decode cL_law_ 1966 = .ok (.aload_n 1, 1) := by decide +kernel
theorem dL_law__1967 : decode cL_law_ 1967 = .ok (.aload_n 0, 1) := by decide +kernel
theorem dL_law__1968 : decode cL_law_ 1968 = .ok (.iload 4, 2) := by decide +kernel
theorem dL_law__1970 : decode cL_law_ 1970 = .ok (.iconst 1, 1) := by decide +kernel
theorem dL_law__1971 : decode cL_law_ 1971 = .ok (.iadd, 1) := by decide +kernel
theorem dL_law__1972 : decode cL_law_ 1972 = .ok (.iaload, 1) := by decide +kernel
theorem dL_law__1973 : decode cL_law_ 1973 = .ok (.aload_n 0, 1) := by decide +kernel
theorem dL_law__1974 : decode cL_law_ 1974 = .ok (.iload 4, 2) := by decide +kernel
theorem dL_law__1976 : decode cL_law_ 1976 = .ok (.iconst 2, 1) := by decide +kernel
theorem dL_law__1977 : decode cL_law_ 1977 = .ok (.iadd, 1) := by decide +kernel
theorem dL_law__1978 : decode cL_law_ 1978 = .ok (.iaload, 1) := by decide +kernel
theorem dL_law__1979 : decode cL_law_ 1979 = .ok (.aload_n 0, 1) := by decide +kernel
theorem dL_law__1980 : decode cL_law_ 1980 = .ok (.iload 4, 2) := by decide +kernel
theorem dL_law__1982 : decode cL_law_ 1982 = .ok (.iconst 3, 1) := by decide +kernel
theorem dL_law__1983 : decode cL_law_ 1983 = .ok (.iadd, 1) := by decide +kernel
theorem dL_law__1984 : decode cL_law_ 1984 = .ok (.iaload, 1) := by decide +kernel
theorem dL_law__1985 : decode cL_law_ 1985 = .ok (.aload_n 0, 1) := by decide +kernel
theorem dL_law__1986 : decode cL_law_ 1986 = .ok (.iload 4, 2) := by decide +kernel
theorem dL_law__1988 : decode cL_law_ 1988 = .ok (.iconst 4, 1) := by decide +kernel
theorem dL_law__1989 : decode cL_law_ 1989 = .ok (.iadd, 1) := by decide +kernel
theorem dL_law__1990 : decode cL_law_ 1990 = .ok (.iaload, 1) := by decide +kernel
theorem dL_law__1991 : decode cL_law_ 1991 = .ok (.aload_n 0, 1) := by decide +kernel
theorem dL_law__1992 : decode cL_law_ 1992 = .ok (.iload 4, 2) := by decide +kernel
theorem dL_law__1994 : decode cL_law_ 1994 = .ok (.iconst 5, 1) := by decide +kernel
theorem dL_law__1995 : decode cL_law_ 1995 = .ok (.iadd, 1) := by decide +kernel
theorem dL_law__1996 : decode cL_law_ 1996 = .ok (.iaload, 1) := by decide +kernel
theorem dL_law__1997 : decode cL_law_ 1997 = .ok (.ifCond .eq 7, 3) := by decide +kernel
theorem dL_law__2000 : decode cL_law_ 2000 = .ok (.iconst 1, 1) := by decide +kernel
theorem dL_law__2001 : decode cL_law_ 2001 = .ok (.goto 4, 3) := by decide +kernel
theorem dL_law__2004 : decode cL_law_ 2004 = .ok (.iconst 0, 1) := by decide +kernel
theorem dL_law__2005 : decode cL_law_ 2005 = .ok (.aload_n 3, 1) := by decide +kernel
theorem dL_law__2006 : decode cL_law_ 2006 = .ok (.invokestatic 196, 3) := by decide +kernel
theorem dL_law__2009 : decode cL_law_ 2009 = .ok (.istore 5, 2) := by decide +kernel
theorem dL_law__2011 : decode cL_law_ 2011 = .ok (.aload_n 2, 1) := by decide +kernel
theorem dL_law__2012 : decode cL_law_ 2012 = .ok (.aload_n 0, 1) := by decide +kernel
theorem dL_law__2013 : decode cL_law_ 2013 = .ok (.iload 4, 2) := by decide +kernel
theorem dL_law__2015 : decode cL_law_ 2015 = .ok (.iconst 1, 1) := by decide +kernel
theorem dL_law__2016 : decode cL_law_ 2016 = .ok (.iadd, 1) := by decide +kernel
theorem dL_law__2017 : decode cL_law_ 2017 = .ok (.iaload, 1) := by decide +kernel
theorem dL_law__2018 : decode cL_law_ 2018 = .ok (.aload_n 0, 1) := by decide +kernel
theorem dL_law__2019 : decode cL_law_ 2019 = .ok (.iload 4, 2) := by decide +kernel
theorem dL_law__2021 : decode cL_law_ 2021 = .ok (.iconst 2, 1) := by decide +kernel
theorem dL_law__2022 : decode cL_law_ 2022 = .ok (.iadd, 1) := by decide +kernel
theorem dL_law__2023 : decode cL_law_ 2023 = .ok (.iaload, 1) := by decide +kernel
theorem dL_law__2024 : decode cL_law_ 2024 = .ok (.aload_n 0, 1) := by decide +kernel
theorem dL_law__2025 : decode cL_law_ 2025 = .ok (.iload 4, 2) := by decide +kernel
theorem dL_law__2027 : decode cL_law_ 2027 = .ok (.iconst 3, 1) := by decide +kernel
theorem dL_law__2028 : decode cL_law_ 2028 = .ok (.iadd, 1) := by decide +kernel
theorem dL_law__2029 : decode cL_law_ 2029 = .ok (.iaload, 1) := by decide +kernel
theorem dL_law__2030 : decode cL_law_ 2030 = .ok (.aload_n 0, 1) := by decide +kernel
theorem dL_law__2031 : decode cL_law_ 2031 = .ok (.iload 4, 2) := by decide +kernel
theorem dL_law__2033 : decode cL_law_ 2033 = .ok (.iconst 4, 1) := by decide +kernel
theorem dL_law__2034 : decode cL_law_ 2034 = .ok (.iadd, 1) := by decide +kernel
theorem dL_law__2035 : decode cL_law_ 2035 = .ok (.iaload, 1) := by decide +kernel
theorem dL_law__2036 : decode cL_law_ 2036 = .ok (.aload_n 0, 1) := by decide +kernel
theorem dL_law__2037 : decode cL_law_ 2037 = .ok (.iload 4, 2) := by decide +kernel
theorem dL_law__2039 : decode cL_law_ 2039 = .ok (.iconst 5, 1) := by decide +kernel
theorem dL_law__2040 : decode cL_law_ 2040 = .ok (.iadd, 1) := by decide +kernel
theorem dL_law__2041 : decode cL_law_ 2041 = .ok (.iaload, 1) := by decide +kernel
theorem dL_law__2042 : decode cL_law_ 2042 = .ok (.ifCond .eq 7, 3) := by decide +kernel
theorem dL_law__2045 : decode cL_law_ 2045 = .ok (.iconst 1, 1) := by decide +kernel
theorem dL_law__2046 : decode cL_law_ 2046 = .ok (.goto 4, 3) := by decide +kernel
theorem dL_law__2049 : decode cL_law_ 2049 = .ok (.iconst 0, 1) := by decide +kernel
theorem dL_law__2050 : decode cL_law_ 2050 = .ok (.invokevirtual 198, 3) := by decide +kernel
theorem dL_law__2053 : decode cL_law_ 2053 = .ok (.istore 6, 2) := by decide +kernel
theorem dL_law__2055 : decode cL_law_ 2055 = .ok (.aload_n 2, 1) := by decide +kernel
theorem dL_law__2056 : decode cL_law_ 2056 = .ok (.invokevirtual 124, 3) := by decide +kernel
theorem dL_law__2059 : decode cL_law_ 2059 = .ok (.iload 5, 2) := by decide +kernel
theorem dL_law__2061 : decode cL_law_ 2061 = .ok (.if_icmp .eq 5, 3) := by decide +kernel
theorem dL_law__2064 : decode cL_law_ 2064 = .ok (.iconst 0, 1) := by decide +kernel
theorem dL_law__2065 : decode cL_law_ 2065 = .ok (.ireturn, 1) := by decide +kernel
theorem dL_law__2066 : decode cL_law_ 2066 = .ok (.iload 5, 2) := by decide +kernel
theorem dL_law__2068 : decode cL_law_ 2068 = .ok (.ifCond .ne 15, 3) := by decide +kernel
theorem dL_law__2071 : decode cL_law_ 2071 = .ok (.aload_n 3, 1) := by decide +kernel
theorem dL_law__2072 : decode cL_law_ 2072 = .ok (.iconst 0, 1) := by decide +kernel
theorem dL_law__2073 : decode cL_law_ 2073 = .ok (.laload, 1) := by decide +kernel
theorem dL_law__2074 : decode cL_law_ 2074 = .ok (.iload 6, 2) := by decide +kernel
theorem dL_law__2076 : decode cL_law_ 2076 = .ok (.i2l, 1) := by decide +kernel
theorem dL_law__2077 : decode cL_law_ 2077 = .ok (.lcmp, 1) := by decide +kernel
theorem dL_law__2078 : decode cL_law_ 2078 = .ok (.ifCond .eq 5, 3) := by decide +kernel
theorem dL_law__2081 : decode cL_law_ 2081 = .ok (.iconst 0, 1) := by decide +kernel
theorem dL_law__2082 : decode cL_law_ 2082 = .ok (.ireturn, 1) := by decide +kernel
theorem dL_law__2083 : decode cL_law_ 2083 = .ok (.goto 556, 3) := by decide +kernel
theorem dL_law__2086 : decode cL_law_ 2086 = .ok (.aload_n 1, 1) := by decide +kernel
theorem dL_law__2087 : decode cL_law_ 2087 = .ok (.aload_n 0, 1) := by decide +kernel
theorem dL_law__2088 : decode cL_law_ 2088 = .ok (.iload 4, 2) := by decide +kernel
theorem dL_law__2090 : decode cL_law_ 2090 = .ok (.iconst 1, 1) := by decide +kernel
theorem dL_law__2091 : decode cL_law_ 2091 = .ok (.iadd, 1) := by decide +kernel
theorem dL_law__2092 : decode cL_law_ 2092 = .ok (.iaload, 1) := by decide +kernel
theorem dL_law__2093 : decode cL_law_ 2093 = .ok (.aload_n 3, 1) := by decide +kernel
theorem dL_law__2094 : decode cL_law_ 2094 = .ok (.invokestatic 199, 3) := by decide +kernel
theorem dL_law__2097 : decode cL_law_ 2097 = .ok (.istore 5, 2) := by decide +kernel
theorem dL_law__2099 : decode cL_law_ 2099 = .ok (.aload_n 2, 1) := by decide +kernel
theorem dL_law__2100 : decode cL_law_ 2100 = .ok (.aload_n 0, 1) := by decide +kernel
theorem dL_law__2101 : decode cL_law_ 2101 = .ok (.iload 4, 2) := by decide +kernel
theorem dL_law__2103 : decode cL_law_ 2103 = .ok (.iconst 1, 1) := by decide +kernel
theorem dL_law__2104 : decode cL_law_ 2104 = .ok (.iadd, 1) := by decide +kernel
theorem dL_law__2105 : decode cL_law_ 2105 = .ok (.iaload, 1) := by decide +kernel
theorem dL_law__2106 : decode cL_law_ 2106 = .ok (.invokevirtual 201, 3) := by decide +kernel
theorem dL_law__2109 : decode cL_law_ 2109 = .ok (.istore 6, 2) := by decide +kernel
theorem dL_law__2111 : decode cL_law_ 2111 = .ok (.aload_n 2, 1) := by decide +kernel
theorem dL_law__2112 : decode cL_law_ 2112 = .ok (.invokevirtual 124, 3) := by decide +kernel
theorem dL_law__2115 : decode cL_law_ 2115 = .ok (.iload 5, 2) := by decide +kernel
theorem dL_law__2117 : decode cL_law_ 2117 = .ok (.if_icmp .eq 5, 3) := by decide +kernel
theorem dL_law__2120 : decode cL_law_ 2120 = .ok (.iconst 0, 1) := by decide +kernel
theorem dL_law__2121 : decode cL_law_ 2121 = .ok (.ireturn, 1) := by decide +kernel
theorem dL_law__2122 : decode cL_law_ 2122 = .ok (.iload 5, 2) := by decide +kernel
theorem dL_law__2124 : decode cL_law_ 2124 = .ok (.ifCond .ne 15, 3) := by decide +kernel
theorem dL_law__2127 : decode cL_law_ 2127 = .ok (.aload_n 3, 1) := by decide +kernel
theorem dL_law__2128 : decode cL_law_ 2128 = .ok (.iconst 0, 1) := by decide +kernel
theorem dL_law__2129 : decode cL_law_ 2129 = .ok (.laload, 1) := by decide +kernel
theorem dL_law__2130 : decode cL_law_ 2130 = .ok (.iload 6, 2) := by decide +kernel
theorem dL_law__2132 : decode cL_law_ 2132 = .ok (.i2l, 1) := by decide +kernel
theorem dL_law__2133 : decode cL_law_ 2133 = .ok (.lcmp, 1) := by decide +kernel
theorem dL_law__2134 : decode cL_law_ 2134 = .ok (.ifCond .eq 5, 3) := by decide +kernel
theorem dL_law__2137 : decode cL_law_ 2137 = .ok (.iconst 0, 1) := by decide +kernel
theorem dL_law__2138 : decode cL_law_ 2138 = .ok (.ireturn, 1) := by decide +kernel
theorem dL_law__2139 : decode cL_law_ 2139 = .ok (.goto 500, 3) := by decide +kernel
theorem dL_law__2142 : decode cL_law_ 2142 = .ok (.aload_n 1, 1) := by decide +kernel
theorem dL_law__2143 : decode cL_law_ 2143 = .ok (.aload_n 0, 1) := by decide +kernel
theorem dL_law__2144 : decode cL_law_ 2144 = .ok (.iload 4, 2) := by decide +kernel
theorem dL_law__2146 : decode cL_law_ 2146 = .ok (.iconst 1, 1) := by decide +kernel
theorem dL_law__2147 : decode cL_law_ 2147 = .ok (.iadd, 1) := by decide +kernel
theorem dL_law__2148 : decode cL_law_ 2148 = .ok (.iaload, 1) := by decide +kernel
theorem dL_law__2149 : decode cL_law_ 2149 = .ok (.aload_n 0, 1) := by decide +kernel
theorem dL_law__2150 : decode cL_law_ 2150 = .ok (.iload 4, 2) := by decide +kernel
theorem dL_law__2152 : decode cL_law_ 2152 = .ok (.iconst 2, 1) := by decide +kernel
theorem dL_law__2153 : decode cL_law_ 2153 = .ok (.iadd, 1) := by decide +kernel
theorem dL_law__2154 : decode cL_law_ 2154 = .ok (.iaload, 1) := by decide +kernel
theorem dL_law__2155 : decode cL_law_ 2155 = .ok (.aload_n 0, 1) := by decide +kernel
theorem dL_law__2156 : decode cL_law_ 2156 = .ok (.iload 4, 2) := by decide +kernel
theorem dL_law__2158 : decode cL_law_ 2158 = .ok (.iconst 3, 1) := by decide +kernel
theorem dL_law__2159 : decode cL_law_ 2159 = .ok (.iadd, 1) := by decide +kernel
theorem dL_law__2160 : decode cL_law_ 2160 = .ok (.iaload, 1) := by decide +kernel
theorem dL_law__2161 : decode cL_law_ 2161 = .ok (.aload_n 3, 1) := by decide +kernel
theorem dL_law__2162 : decode cL_law_ 2162 = .ok (.invokestatic 202, 3) := by decide +kernel
theorem dL_law__2165 : decode cL_law_ 2165 = .ok (.istore 5, 2) := by decide +kernel
theorem dL_law__2167 : decode cL_law_ 2167 = .ok (.aload_n 2, 1) := by decide +kernel
theorem dL_law__2168 : decode cL_law_ 2168 = .ok (.aload_n 0, 1) := by decide +kernel
theorem dL_law__2169 : decode cL_law_ 2169 = .ok (.iload 4, 2) := by decide +kernel
theorem dL_law__2171 : decode cL_law_ 2171 = .ok (.iconst 1, 1) := by decide +kernel
theorem dL_law__2172 : decode cL_law_ 2172 = .ok (.iadd, 1) := by decide +kernel
theorem dL_law__2173 : decode cL_law_ 2173 = .ok (.iaload, 1) := by decide +kernel
theorem dL_law__2174 : decode cL_law_ 2174 = .ok (.aload_n 0, 1) := by decide +kernel
theorem dL_law__2175 : decode cL_law_ 2175 = .ok (.iload 4, 2) := by decide +kernel
theorem dL_law__2177 : decode cL_law_ 2177 = .ok (.iconst 2, 1) := by decide +kernel
theorem dL_law__2178 : decode cL_law_ 2178 = .ok (.iadd, 1) := by decide +kernel
theorem dL_law__2179 : decode cL_law_ 2179 = .ok (.iaload, 1) := by decide +kernel
theorem dL_law__2180 : decode cL_law_ 2180 = .ok (.aload_n 0, 1) := by decide +kernel
theorem dL_law__2181 : decode cL_law_ 2181 = .ok (.iload 4, 2) := by decide +kernel
theorem dL_law__2183 : decode cL_law_ 2183 = .ok (.iconst 3, 1) := by decide +kernel
theorem dL_law__2184 : decode cL_law_ 2184 = .ok (.iadd, 1) := by decide +kernel
theorem dL_law__2185 : decode cL_law_ 2185 = .ok (.iaload, 1) := by decide +kernel
theorem dL_law__2186 : decode cL_law_ 2186 = .ok (.invokevirtual 204, 3) := by decide +kernel
theorem dL_law__2189 : decode cL_law_ 2189 = .ok (.istore 6, 2) := by decide +kernel
theorem dL_law__2191 : decode cL_law_ 2191 = .ok (.aload_n 2, 1) := by decide +kernel
theorem dL_law__2192 : decode cL_law_ 2192 = .ok (.invokevirtual 124, 3) := by decide +kernel
theorem dL_law__2195 : decode cL_law_ 2195 = .ok (.iload 5, 2) := by decide +kernel
theorem dL_law__2197 : decode cL_law_ 2197 = .ok (.if_icmp .eq 5, 3) := by decide +kernel
theorem dL_law__2200 : decode cL_law_ 2200 = .ok (.iconst 0, 1) := by decide +kernel
theorem dL_law__2201 : decode cL_law_ 2201 = .ok (.ireturn, 1) := by decide +kernel
theorem dL_law__2202 : decode cL_law_ 2202 = .ok (.iload 5, 2) := by decide +kernel
theorem dL_law__2204 : decode cL_law_ 2204 = .ok (.ifCond .ne 15, 3) := by decide +kernel
theorem dL_law__2207 : decode cL_law_ 2207 = .ok (.aload_n 3, 1) := by decide +kernel
theorem dL_law__2208 : decode cL_law_ 2208 = .ok (.iconst 0, 1) := by decide +kernel
theorem dL_law__2209 : decode cL_law_ 2209 = .ok (.laload, 1) := by decide +kernel
theorem dL_law__2210 : decode cL_law_ 2210 = .ok (.iload 6, 2) := by decide +kernel
theorem dL_law__2212 : decode cL_law_ 2212 = .ok (.i2l, 1) := by decide +kernel
theorem dL_law__2213 : decode cL_law_ 2213 = .ok (.lcmp, 1) := by decide +kernel
theorem dL_law__2214 : decode cL_law_ 2214 = .ok (.ifCond .eq 5, 3) := by decide +kernel
theorem dL_law__2217 : decode cL_law_ 2217 = .ok (.iconst 0, 1) := by decide +kernel
theorem dL_law__2218 : decode cL_law_ 2218 = .ok (.ireturn, 1) := by decide +kernel
theorem dL_law__2219 : decode cL_law_ 2219 = .ok (.goto 420, 3) := by decide +kernel
theorem dL_law__2222 : decode cL_law_ 2222 = .ok (.aload_n 1, 1) := by decide +kernel
theorem dL_law__2223 : decode cL_law_ 2223 = .ok (.aload_n 0, 1) := by decide +kernel
theorem dL_law__2224 : decode cL_law_ 2224 = .ok (.iload 4, 2) := by decide +kernel
theorem dL_law__2226 : decode cL_law_ 2226 = .ok (.iconst 1, 1) := by decide +kernel
theorem dL_law__2227 : decode cL_law_ 2227 = .ok (.iadd, 1) := by decide +kernel
theorem dL_law__2228 : decode cL_law_ 2228 = .ok (.iaload, 1) := by decide +kernel
theorem dL_law__2229 : decode cL_law_ 2229 = .ok (.aload_n 3, 1) := by decide +kernel
theorem dL_law__2230 : decode cL_law_ 2230 = .ok (.invokestatic 205, 3) := by decide +kernel
theorem dL_law__2233 : decode cL_law_ 2233 = .ok (.istore 5, 2) := by decide +kernel
theorem dL_law__2235 : decode cL_law_ 2235 = .ok (.aload_n 2, 1) := by decide +kernel
theorem dL_law__2236 : decode cL_law_ 2236 = .ok (.aload_n 0, 1) := by decide +kernel
theorem dL_law__2237 : decode cL_law_ 2237 = .ok (.iload 4, 2) := by decide +kernel
theorem dL_law__2239 : decode cL_law_ 2239 = .ok (.iconst 1, 1) := by decide +kernel
theorem dL_law__2240 : decode cL_law_ 2240 = .ok (.iadd, 1) := by decide +kernel
theorem dL_law__2241 : decode cL_law_ 2241 = .ok (.iaload, 1) := by decide +kernel
theorem dL_law__2242 : decode cL_law_ 2242 = .ok (.invokevirtual 207, 3) := by decide +kernel
theorem dL_law__2245 : decode cL_law_ 2245 = .ok (.istore 6, 2) := by decide +kernel
theorem dL_law__2247 : decode cL_law_ 2247 = .ok (.aload_n 2, 1) := by decide +kernel
theorem dL_law__2248 : decode cL_law_ 2248 = .ok (.invokevirtual 124, 3) := by decide +kernel
theorem dL_law__2251 : decode cL_law_ 2251 = .ok (.iload 5, 2) := by decide +kernel
theorem dL_law__2253 : decode cL_law_ 2253 = .ok (.if_icmp .eq 5, 3) := by decide +kernel
theorem dL_law__2256 : decode cL_law_ 2256 = .ok (.iconst 0, 1) := by decide +kernel
theorem dL_law__2257 : decode cL_law_ 2257 = .ok (.ireturn, 1) := by decide +kernel
theorem dL_law__2258 : decode cL_law_ 2258 = .ok (.iload 5, 2) := by decide +kernel
theorem dL_law__2260 : decode cL_law_ 2260 = .ok (.ifCond .ne 15, 3) := by decide +kernel
theorem dL_law__2263 : decode cL_law_ 2263 = .ok (.aload_n 3, 1) := by decide +kernel
theorem dL_law__2264 : decode cL_law_ 2264 = .ok (.iconst 0, 1) := by decide +kernel
theorem dL_law__2265 : decode cL_law_ 2265 = .ok (.laload, 1) := by decide +kernel
theorem dL_law__2266 : decode cL_law_ 2266 = .ok (.iload 6, 2) := by decide +kernel
theorem dL_law__2268 : decode cL_law_ 2268 = .ok (.i2l, 1) := by decide +kernel
theorem dL_law__2269 : decode cL_law_ 2269 = .ok (.lcmp, 1) := by decide +kernel
theorem dL_law__2270 : decode cL_law_ 2270 = .ok (.ifCond .eq 5, 3) := by decide +kernel
theorem dL_law__2273 : decode cL_law_ 2273 = .ok (.iconst 0, 1) := by decide +kernel
theorem dL_law__2274 : decode cL_law_ 2274 = .ok (.ireturn, 1) := by decide +kernel
theorem dL_law__2275 : decode cL_law_ 2275 = .ok (.goto 364, 3) := by decide +kernel
theorem dL_law__2278 : decode cL_law_ 2278 = .ok (.aload_n 1, 1) := by decide +kernel
theorem dL_law__2279 : decode cL_law_ 2279 = .ok (.aload_n 0, 1) := by decide +kernel
theorem dL_law__2280 : decode cL_law_ 2280 = .ok (.iload 4, 2) := by decide +kernel
theorem dL_law__2282 : decode cL_law_ 2282 = .ok (.iconst 1, 1) := by decide +kernel
theorem dL_law__2283 : decode cL_law_ 2283 = .ok (.iadd, 1) := by decide +kernel
theorem dL_law__2284 : decode cL_law_ 2284 = .ok (.iaload, 1) := by decide +kernel
theorem dL_law__2285 : decode cL_law_ 2285 = .ok (.aload_n 0, 1) := by decide +kernel
theorem dL_law__2286 : decode cL_law_ 2286 = .ok (.iload 4, 2) := by decide +kernel
theorem dL_law__2288 : decode cL_law_ 2288 = .ok (.iconst 2, 1) := by decide +kernel
theorem dL_law__2289 : decode cL_law_ 2289 = .ok (.iadd, 1) := by decide +kernel
theorem dL_law__2290 : decode cL_law_ 2290 = .ok (.iaload, 1) := by decide +kernel
theorem dL_law__2291 : decode cL_law_ 2291 = .ok (.aload_n 0, 1) := by decide +kernel
theorem dL_law__2292 : decode cL_law_ 2292 = .ok (.iload 4, 2) := by decide +kernel
theorem dL_law__2294 : decode cL_law_ 2294 = .ok (.iconst 3, 1) := by decide +kernel
theorem dL_law__2295 : decode cL_law_ 2295 = .ok (.iadd, 1) := by decide +kernel
theorem dL_law__2296 : decode cL_law_ 2296 = .ok (.iaload, 1) := by decide +kernel
theorem dL_law__2297 : decode cL_law_ 2297 = .ok (.aload_n 3, 1) := by decide +kernel
theorem dL_law__2298 : decode cL_law_ 2298 = .ok (.invokestatic 208, 3) := by decide +kernel
theorem dL_law__2301 : decode cL_law_ 2301 = .ok (.istore 5, 2) := by decide +kernel
theorem dL_law__2303 : decode cL_law_ 2303 = .ok (.aload_n 2, 1) := by decide +kernel
theorem dL_law__2304 : decode cL_law_ 2304 = .ok (.aload_n 0, 1) := by decide +kernel
theorem dL_law__2305 : decode cL_law_ 2305 = .ok (.iload 4, 2) := by decide +kernel
theorem dL_law__2307 : decode cL_law_ 2307 = .ok (.iconst 1, 1) := by decide +kernel
theorem dL_law__2308 : decode cL_law_ 2308 = .ok (.iadd, 1) := by decide +kernel
theorem dL_law__2309 : decode cL_law_ 2309 = .ok (.iaload, 1) := by decide +kernel
theorem dL_law__2310 : decode cL_law_ 2310 = .ok (.aload_n 0, 1) := by decide +kernel
theorem dL_law__2311 : decode cL_law_ 2311 = .ok (.iload 4, 2) := by decide +kernel
theorem dL_law__2313 : decode cL_law_ 2313 = .ok (.iconst 2, 1) := by decide +kernel
theorem dL_law__2314 : decode cL_law_ 2314 = .ok (.iadd, 1) := by decide +kernel
theorem dL_law__2315 : decode cL_law_ 2315 = .ok (.iaload, 1) := by decide +kernel
theorem dL_law__2316 : decode cL_law_ 2316 = .ok (.aload_n 0, 1) := by decide +kernel
theorem dL_law__2317 : decode cL_law_ 2317 = .ok (.iload 4, 2) := by decide +kernel
theorem dL_law__2319 : decode cL_law_ 2319 = .ok (.iconst 3, 1) := by decide +kernel
theorem dL_law__2320 : decode cL_law_ 2320 = .ok (.iadd, 1) := by decide +kernel
theorem dL_law__2321 : decode cL_law_ 2321 = .ok (.iaload, 1) := by decide +kernel
theorem dL_law__2322 : decode cL_law_ 2322 = .ok (.invokevirtual 210, 3) := by decide +kernel
theorem dL_law__2325 : decode cL_law_ 2325 = .ok (.istore 6, 2) := by decide +kernel
theorem dL_law__2327 : decode cL_law_ 2327 = .ok (.aload_n 2, 1) := by decide +kernel
theorem dL_law__2328 : decode cL_law_ 2328 = .ok (.invokevirtual 124, 3) := by decide +kernel
theorem dL_law__2331 : decode cL_law_ 2331 = .ok (.iload 5, 2) := by decide +kernel
theorem dL_law__2333 : decode cL_law_ 2333 = .ok (.if_icmp .eq 5, 3) := by decide +kernel
theorem dL_law__2336 : decode cL_law_ 2336 = .ok (.iconst 0, 1) := by decide +kernel
theorem dL_law__2337 : decode cL_law_ 2337 = .ok (.ireturn, 1) := by decide +kernel
theorem dL_law__2338 : decode cL_law_ 2338 = .ok (.iload 5, 2) := by decide +kernel
theorem dL_law__2340 : decode cL_law_ 2340 = .ok (.ifCond .ne 15, 3) := by decide +kernel
theorem dL_law__2343 : decode cL_law_ 2343 = .ok (.aload_n 3, 1) := by decide +kernel
theorem dL_law__2344 : decode cL_law_ 2344 = .ok (.iconst 0, 1) := by decide +kernel
theorem dL_law__2345 : decode cL_law_ 2345 = .ok (.laload, 1) := by decide +kernel
theorem dL_law__2346 : decode cL_law_ 2346 = .ok (.iload 6, 2) := by decide +kernel
theorem dL_law__2348 : decode cL_law_ 2348 = .ok (.i2l, 1) := by decide +kernel
theorem dL_law__2349 : decode cL_law_ 2349 = .ok (.lcmp, 1) := by decide +kernel
theorem dL_law__2350 : decode cL_law_ 2350 = .ok (.ifCond .eq 5, 3) := by decide +kernel
theorem dL_law__2353 : decode cL_law_ 2353 = .ok (.iconst 0, 1) := by decide +kernel
theorem dL_law__2354 : decode cL_law_ 2354 = .ok (.ireturn, 1) := by decide +kernel
theorem dL_law__2355 : decode cL_law_ 2355 = .ok (.goto 284, 3) := by decide +kernel
theorem dL_law__2358 : decode cL_law_ 2358 = .ok (.aload_n 1, 1) := by decide +kernel
theorem dL_law__2359 : decode cL_law_ 2359 = .ok (.aload_n 0, 1) := by decide +kernel
theorem dL_law__2360 : decode cL_law_ 2360 = .ok (.iload 4, 2) := by decide +kernel
theorem dL_law__2362 : decode cL_law_ 2362 = .ok (.iconst 1, 1) := by decide +kernel
theorem dL_law__2363 : decode cL_law_ 2363 = .ok (.iadd, 1) := by decide +kernel
theorem dL_law__2364 : decode cL_law_ 2364 = .ok (.iaload, 1) := by decide +kernel
theorem dL_law__2365 : decode cL_law_ 2365 = .ok (.aload_n 3, 1) := by decide +kernel
theorem dL_law__2366 : decode cL_law_ 2366 = .ok (.invokestatic 211, 3) := by decide +kernel
theorem dL_law__2369 : decode cL_law_ 2369 = .ok (.istore 5, 2) := by decide +kernel
theorem dL_law__2371 : decode cL_law_ 2371 = .ok (.aload_n 2, 1) := by decide +kernel
theorem dL_law__2372 : decode cL_law_ 2372 = .ok (.aload_n 0, 1) := by decide +kernel
theorem dL_law__2373 : decode cL_law_ 2373 = .ok (.iload 4, 2) := by decide +kernel
theorem dL_law__2375 : decode cL_law_ 2375 = .ok (.iconst 1, 1) := by decide +kernel
theorem dL_law__2376 : decode cL_law_ 2376 = .ok (.iadd, 1) := by decide +kernel
theorem dL_law__2377 : decode cL_law_ 2377 = .ok (.iaload, 1) := by decide +kernel
theorem dL_law__2378 : decode cL_law_ 2378 = .ok (.invokevirtual 213, 3) := by decide +kernel
theorem dL_law__2381 : decode cL_law_ 2381 = .ok (.istore 6, 2) := by decide +kernel
theorem dL_law__2383 : decode cL_law_ 2383 = .ok (.aload_n 2, 1) := by decide +kernel
theorem dL_law__2384 : decode cL_law_ 2384 = .ok (.invokevirtual 124, 3) := by decide +kernel
theorem dL_law__2387 : decode cL_law_ 2387 = .ok (.iload 5, 2) := by decide +kernel
theorem dL_law__2389 : decode cL_law_ 2389 = .ok (.if_icmp .eq 5, 3) := by decide +kernel
theorem dL_law__2392 : decode cL_law_ 2392 = .ok (.iconst 0, 1) := by decide +kernel
theorem dL_law__2393 : decode cL_law_ 2393 = .ok (.ireturn, 1) := by decide +kernel
theorem dL_law__2394 : decode cL_law_ 2394 = .ok (.iload 5, 2) := by decide +kernel
theorem dL_law__2396 : decode cL_law_ 2396 = .ok (.ifCond .ne 15, 3) := by decide +kernel
theorem dL_law__2399 : decode cL_law_ 2399 = .ok (.aload_n 3, 1) := by decide +kernel
theorem dL_law__2400 : decode cL_law_ 2400 = .ok (.iconst 0, 1) := by decide +kernel
theorem dL_law__2401 : decode cL_law_ 2401 = .ok (.laload, 1) := by decide +kernel
theorem dL_law__2402 : decode cL_law_ 2402 = .ok (.iload 6, 2) := by decide +kernel
theorem dL_law__2404 : decode cL_law_ 2404 = .ok (.i2l, 1) := by decide +kernel
theorem dL_law__2405 : decode cL_law_ 2405 = .ok (.lcmp, 1) := by decide +kernel
theorem dL_law__2406 : decode cL_law_ 2406 = .ok (.ifCond .eq 5, 3) := by decide +kernel
theorem dL_law__2409 : decode cL_law_ 2409 = .ok (.iconst 0, 1) := by decide +kernel
theorem dL_law__2410 : decode cL_law_ 2410 = .ok (.ireturn, 1) := by decide +kernel
theorem dL_law__2411 : decode cL_law_ 2411 = .ok (.goto 228, 3) := by decide +kernel
theorem dL_law__2414 : decode cL_law_ 2414 = .ok (.aload_n 1, 1) := by decide +kernel
theorem dL_law__2415 : decode cL_law_ 2415 = .ok (.aload_n 0, 1) := by decide +kernel
theorem dL_law__2416 : decode cL_law_ 2416 = .ok (.iload 4, 2) := by decide +kernel
theorem dL_law__2418 : decode cL_law_ 2418 = .ok (.iconst 1, 1) := by decide +kernel
theorem dL_law__2419 : decode cL_law_ 2419 = .ok (.iadd, 1) := by decide +kernel
theorem dL_law__2420 : decode cL_law_ 2420 = .ok (.iaload, 1) := by decide +kernel
theorem dL_law__2421 : decode cL_law_ 2421 = .ok (.aload_n 3, 1) := by decide +kernel
theorem dL_law__2422 : decode cL_law_ 2422 = .ok (.invokestatic 214, 3) := by decide +kernel
theorem dL_law__2425 : decode cL_law_ 2425 = .ok (.istore 5, 2) := by decide +kernel
theorem dL_law__2427 : decode cL_law_ 2427 = .ok (.aload_n 2, 1) := by decide +kernel
theorem dL_law__2428 : decode cL_law_ 2428 = .ok (.aload_n 0, 1) := by decide +kernel
theorem dL_law__2429 : decode cL_law_ 2429 = .ok (.iload 4, 2) := by decide +kernel
theorem dL_law__2431 : decode cL_law_ 2431 = .ok (.iconst 1, 1) := by decide +kernel
theorem dL_law__2432 : decode cL_law_ 2432 = .ok (.iadd, 1) := by decide +kernel
theorem dL_law__2433 : decode cL_law_ 2433 = .ok (.iaload, 1) := by decide +kernel
theorem dL_law__2434 : decode cL_law_ 2434 = .ok (.invokevirtual 216, 3) := by decide +kernel
theorem dL_law__2437 : decode cL_law_ 2437 = .ok (.istore 6, 2) := by decide +kernel
theorem dL_law__2439 : decode cL_law_ 2439 = .ok (.aload_n 2, 1) := by decide +kernel
theorem dL_law__2440 : decode cL_law_ 2440 = .ok (.invokevirtual 124, 3) := by decide +kernel
theorem dL_law__2443 : decode cL_law_ 2443 = .ok (.iload 5, 2) := by decide +kernel
theorem dL_law__2445 : decode cL_law_ 2445 = .ok (.if_icmp .eq 5, 3) := by decide +kernel
theorem dL_law__2448 : decode cL_law_ 2448 = .ok (.iconst 0, 1) := by decide +kernel
theorem dL_law__2449 : decode cL_law_ 2449 = .ok (.ireturn, 1) := by decide +kernel
theorem dL_law__2450 : decode cL_law_ 2450 = .ok (.iload 5, 2) := by decide +kernel
theorem dL_law__2452 : decode cL_law_ 2452 = .ok (.ifCond .ne 15, 3) := by decide +kernel
theorem dL_law__2455 : decode cL_law_ 2455 = .ok (.aload_n 3, 1) := by decide +kernel
theorem dL_law__2456 : decode cL_law_ 2456 = .ok (.iconst 0, 1) := by decide +kernel
theorem dL_law__2457 : decode cL_law_ 2457 = .ok (.laload, 1) := by decide +kernel
theorem dL_law__2458 : decode cL_law_ 2458 = .ok (.iload 6, 2) := by decide +kernel
theorem dL_law__2460 : decode cL_law_ 2460 = .ok (.i2l, 1) := by decide +kernel
theorem dL_law__2461 : decode cL_law_ 2461 = .ok (.lcmp, 1) := by decide +kernel
theorem dL_law__2462 : decode cL_law_ 2462 = .ok (.ifCond .eq 5, 3) := by decide +kernel
theorem dL_law__2465 : decode cL_law_ 2465 = .ok (.iconst 0, 1) := by decide +kernel
theorem dL_law__2466 : decode cL_law_ 2466 = .ok (.ireturn, 1) := by decide +kernel
theorem dL_law__2467 : decode cL_law_ 2467 = .ok (.goto 172, 3) := by decide +kernel
theorem dL_law__2470 : decode cL_law_ 2470 = .ok (.aload_n 1, 1) := by decide +kernel
theorem dL_law__2471 : decode cL_law_ 2471 = .ok (.aload_n 0, 1) := by decide +kernel
theorem dL_law__2472 : decode cL_law_ 2472 = .ok (.iload 4, 2) := by decide +kernel
theorem dL_law__2474 : decode cL_law_ 2474 = .ok (.iconst 1, 1) := by decide +kernel
theorem dL_law__2475 : decode cL_law_ 2475 = .ok (.iadd, 1) := by decide +kernel
theorem dL_law__2476 : decode cL_law_ 2476 = .ok (.iaload, 1) := by decide +kernel
theorem dL_law__2477 : decode cL_law_ 2477 = .ok (.aload_n 0, 1) := by decide +kernel
theorem dL_law__2478 : decode cL_law_ 2478 = .ok (.iload 4, 2) := by decide +kernel
theorem dL_law__2480 : decode cL_law_ 2480 = .ok (.iconst 2, 1) := by decide +kernel
theorem dL_law__2481 : decode cL_law_ 2481 = .ok (.iadd, 1) := by decide +kernel
theorem dL_law__2482 : decode cL_law_ 2482 = .ok (.iaload, 1) := by decide +kernel
theorem dL_law__2483 : decode cL_law_ 2483 = .ok (.aload_n 0, 1) := by decide +kernel
theorem dL_law__2484 : decode cL_law_ 2484 = .ok (.iload 4, 2) := by decide +kernel
theorem dL_law__2486 : decode cL_law_ 2486 = .ok (.iconst 3, 1) := by decide +kernel
theorem dL_law__2487 : decode cL_law_ 2487 = .ok (.iadd, 1) := by decide +kernel
theorem dL_law__2488 : decode cL_law_ 2488 = .ok (.iaload, 1) := by decide +kernel
theorem dL_law__2489 : decode cL_law_ 2489 = .ok (.aload_n 0, 1) := by decide +kernel
theorem dL_law__2490 : decode cL_law_ 2490 = .ok (.iload 4, 2) := by decide +kernel
theorem dL_law__2492 : decode cL_law_ 2492 = .ok (.iconst 4, 1) := by decide +kernel
theorem dL_law__2493 : decode cL_law_ 2493 = .ok (.iadd, 1) := by decide +kernel
theorem dL_law__2494 : decode cL_law_ 2494 = .ok (.iaload, 1) := by decide +kernel
theorem dL_law__2495 : decode cL_law_ 2495 = .ok (.aload_n 0, 1) := by decide +kernel
theorem dL_law__2496 : decode cL_law_ 2496 = .ok (.iload 4, 2) := by decide +kernel
theorem dL_law__2498 : decode cL_law_ 2498 = .ok (.iconst 5, 1) := by decide +kernel
theorem dL_law__2499 : decode cL_law_ 2499 = .ok (.iadd, 1) := by decide +kernel
theorem dL_law__2500 : decode cL_law_ 2500 = .ok (.iaload, 1) := by decide +kernel
theorem dL_law__2501 : decode cL_law_ 2501 = .ok (.aload_n 0, 1) := by decide +kernel
theorem dL_law__2502 : decode cL_law_ 2502 = .ok (.iload 4, 2) := by decide +kernel
theorem dL_law__2504 : decode cL_law_ 2504 = .ok (.bipush 6, 2) := by decide +kernel
theorem dL_law__2506 : decode cL_law_ 2506 = .ok (.iadd, 1) := by decide +kernel
theorem dL_law__2507 : decode cL_law_ 2507 = .ok (.iaload, 1) := by decide +kernel
theorem dL_law__2508 : decode cL_law_ 2508 = .ok (.aload_n 3, 1) := by decide +kernel
theorem dL_law__2509 : decode cL_law_ 2509 = .ok (.invokestatic 217, 3) := by decide +kernel
theorem dL_law__2512 : decode cL_law_ 2512 = .ok (.istore 5, 2) := by decide +kernel
theorem dL_law__2514 : decode cL_law_ 2514 = .ok (.aload_n 2, 1) := by decide +kernel
theorem dL_law__2515 : decode cL_law_ 2515 = .ok (.aload_n 0, 1) := by decide +kernel
theorem dL_law__2516 : decode cL_law_ 2516 = .ok (.iload 4, 2) := by decide +kernel
theorem dL_law__2518 : decode cL_law_ 2518 = .ok (.iconst 1, 1) := by decide +kernel
theorem dL_law__2519 : decode cL_law_ 2519 = .ok (.iadd, 1) := by decide +kernel
theorem dL_law__2520 : decode cL_law_ 2520 = .ok (.iaload, 1) := by decide +kernel
theorem dL_law__2521 : decode cL_law_ 2521 = .ok (.aload_n 0, 1) := by decide +kernel
theorem dL_law__2522 : decode cL_law_ 2522 = .ok (.iload 4, 2) := by decide +kernel
theorem dL_law__2524 : decode cL_law_ 2524 = .ok (.iconst 2, 1) := by decide +kernel
theorem dL_law__2525 : decode cL_law_ 2525 = .ok (.iadd, 1) := by decide +kernel
theorem dL_law__2526 : decode cL_law_ 2526 = .ok (.iaload, 1) := by decide +kernel
theorem dL_law__2527 : decode cL_law_ 2527 = .ok (.aload_n 0, 1) := by decide +kernel
theorem dL_law__2528 : decode cL_law_ 2528 = .ok (.iload 4, 2) := by decide +kernel
theorem dL_law__2530 : decode cL_law_ 2530 = .ok (.iconst 3, 1) := by decide +kernel
theorem dL_law__2531 : decode cL_law_ 2531 = .ok (.iadd, 1) := by decide +kernel
theorem dL_law__2532 : decode cL_law_ 2532 = .ok (.iaload, 1) := by decide +kernel
theorem dL_law__2533 : decode cL_law_ 2533 = .ok (.aload_n 0, 1) := by decide +kernel
theorem dL_law__2534 : decode cL_law_ 2534 = .ok (.iload 4, 2) := by decide +kernel
theorem dL_law__2536 : decode cL_law_ 2536 = .ok (.iconst 4, 1) := by decide +kernel
theorem dL_law__2537 : decode cL_law_ 2537 = .ok (.iadd, 1) := by decide +kernel
theorem dL_law__2538 : decode cL_law_ 2538 = .ok (.iaload, 1) := by decide +kernel
theorem dL_law__2539 : decode cL_law_ 2539 = .ok (.aload_n 0, 1) := by decide +kernel
theorem dL_law__2540 : decode cL_law_ 2540 = .ok (.iload 4, 2) := by decide +kernel
theorem dL_law__2542 : decode cL_law_ 2542 = .ok (.iconst 5, 1) := by decide +kernel
theorem dL_law__2543 : decode cL_law_ 2543 = .ok (.iadd, 1) := by decide +kernel
theorem dL_law__2544 : decode cL_law_ 2544 = .ok (.iaload, 1) := by decide +kernel
theorem dL_law__2545 : decode cL_law_ 2545 = .ok (.aload_n 0, 1) := by decide +kernel
theorem dL_law__2546 : decode cL_law_ 2546 = .ok (.iload 4, 2) := by decide +kernel
theorem dL_law__2548 : decode cL_law_ 2548 = .ok (.bipush 6, 2) := by decide +kernel
theorem dL_law__2550 : decode cL_law_ 2550 = .ok (.iadd, 1) := by decide +kernel
theorem dL_law__2551 : decode cL_law_ 2551 = .ok (.iaload, 1) := by decide +kernel
theorem dL_law__2552 : decode cL_law_ 2552 = .ok (.invokevirtual 219, 3) := by decide +kernel
theorem dL_law__2555 : decode cL_law_ 2555 = .ok (.istore 6, 2) := by decide +kernel
theorem dL_law__2557 : decode cL_law_ 2557 = .ok (.aload_n 2, 1) := by decide +kernel
theorem dL_law__2558 : decode cL_law_ 2558 = .ok (.invokevirtual 124, 3) := by decide +kernel
theorem dL_law__2561 : decode cL_law_ 2561 = .ok (.iload 5, 2) := by decide +kernel
theorem dL_law__2563 : decode cL_law_ 2563 = .ok (.if_icmp .eq 5, 3) := by decide +kernel
theorem dL_law__2566 : decode cL_law_ 2566 = .ok (.iconst 0, 1) := by decide +kernel
theorem dL_law__2567 : decode cL_law_ 2567 = .ok (.ireturn, 1) := by decide +kernel
theorem dL_law__2568 : decode cL_law_ 2568 = .ok (.iload 5, 2) := by decide +kernel
theorem dL_law__2570 : decode cL_law_ 2570 = .ok (.ifCond .ne 15, 3) := by decide +kernel
theorem dL_law__2573 : decode cL_law_ 2573 = .ok (.aload_n 3, 1) := by decide +kernel
theorem dL_law__2574 : decode cL_law_ 2574 = .ok (.iconst 0, 1) := by decide +kernel
theorem dL_law__2575 : decode cL_law_ 2575 = .ok (.laload, 1) := by decide +kernel
theorem dL_law__2576 : decode cL_law_ 2576 = .ok (.iload 6, 2) := by decide +kernel
theorem dL_law__2578 : decode cL_law_ 2578 = .ok (.i2l, 1) := by decide +kernel
theorem dL_law__2579 : decode cL_law_ 2579 = .ok (.lcmp, 1) := by decide +kernel
theorem dL_law__2580 : decode cL_law_ 2580 = .ok (.ifCond .eq 5, 3) := by decide +kernel
theorem dL_law__2583 : decode cL_law_ 2583 = .ok (.iconst 0, 1) := by decide +kernel
theorem dL_law__2584 : decode cL_law_ 2584 = .ok (.ireturn, 1) := by decide +kernel
theorem dL_law__2585 : decode cL_law_ 2585 = .ok (.goto 54, 3) := by decide +kernel
theorem dL_law__2588 : decode cL_law_ 2588 = .ok (.aload_n 1, 1) := by decide +kernel
theorem dL_law__2589 : decode cL_law_ 2589 = .ok (.invokevirtual 220, 3) := by decide +kernel
theorem dL_law__2592 : decode cL_law_ 2592 = .ok (.aload_n 2, 1) := by decide +kernel
theorem dL_law__2593 : decode cL_law_ 2593 = .ok (.invokevirtual 223, 3) := by decide +kernel
theorem dL_law__2596 : decode cL_law_ 2596 = .ok (.if_icmp .eq 43, 3) := by decide +kernel
theorem dL_law__2599 : decode cL_law_ 2599 = .ok (.iconst 0, 1) := by decide +kernel
theorem dL_law__2600 : decode cL_law_ 2600 = .ok (.ireturn, 1) := by decide +kernel
theorem dL_law__2601 : decode cL_law_ 2601 = .ok (.aload_n 1, 1) := by decide +kernel
theorem dL_law__2602 : decode cL_law_ 2602 = .ok (.invokevirtual 224, 3) := by decide +kernel
theorem dL_law__2605 : decode cL_law_ 2605 = .ok (.aload_n 2, 1) := by decide +kernel
theorem dL_law__2606 : decode cL_law_ 2606 = .ok (.invokevirtual 227, 3) := by decide +kernel
theorem dL_law__2609 : decode cL_law_ 2609 = .ok (.if_icmp .eq 30, 3) := by decide +kernel
theorem dL_law__2612 : decode cL_law_ 2612 = .ok (.iconst 0, 1) := by decide +kernel
theorem dL_law__2613 : decode cL_law_ 2613 = .ok (.ireturn, 1) := by decide +kernel
theorem dL_law__2614 : decode cL_law_ 2614 = .ok (.aload_n 1, 1) := by decide +kernel
theorem dL_law__2615 : decode cL_law_ 2615 = .ok (.aload_n 0, 1) := by decide +kernel
theorem dL_law__2616 : decode cL_law_ 2616 = .ok (.iload 4, 2) := by decide +kernel
theorem dL_law__2618 : decode cL_law_ 2618 = .ok (.iconst 1, 1) := by decide +kernel
theorem dL_law__2619 : decode cL_law_ 2619 = .ok (.iadd, 1) := by decide +kernel
theorem dL_law__2620 : decode cL_law_ 2620 = .ok (.iaload, 1) := by decide +kernel
theorem dL_law__2621 : decode cL_law_ 2621 = .ok (.invokevirtual 228, 3) := by decide +kernel
theorem dL_law__2624 : decode cL_law_ 2624 = .ok (.aload_n 2, 1) := by decide +kernel
theorem dL_law__2625 : decode cL_law_ 2625 = .ok (.aload_n 0, 1) := by decide +kernel
theorem dL_law__2626 : decode cL_law_ 2626 = .ok (.iload 4, 2) := by decide +kernel
theorem dL_law__2628 : decode cL_law_ 2628 = .ok (.iconst 1, 1) := by decide +kernel
theorem dL_law__2629 : decode cL_law_ 2629 = .ok (.iadd, 1) := by decide +kernel
theorem dL_law__2630 : decode cL_law_ 2630 = .ok (.iaload, 1) := by decide +kernel
theorem dL_law__2631 : decode cL_law_ 2631 = .ok (.invokevirtual 231, 3) := by decide +kernel
theorem dL_law__2634 : decode cL_law_ 2634 = .ok (.if_icmp .eq 5, 3) := by decide +kernel
theorem dL_law__2637 : decode cL_law_ 2637 = .ok (.iconst 0, 1) := by decide +kernel
theorem dL_law__2638 : decode cL_law_ 2638 = .ok (.ireturn, 1) := by decide +kernel
theorem dL_law__2639 : decode cL_law_ 2639 = .ok (.iinc 4 7, 3) := by decide +kernel
theorem dL_law__2642 : decode cL_law_ 2642 = .ok (.goto (-2619), 3) := by decide +kernel
theorem dL_law__2645 : decode cL_law_ 2645 = .ok (.iconst 1, 1) := by decide +kernel
theorem dL_law__2646 : decode cL_law_ 2646 = .ok (.ireturn, 1) := by decide +kernel
