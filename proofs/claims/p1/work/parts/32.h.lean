theorem dL_law_1722 : decode cL_law 1722 = .ok (.iconst 2, 1) := by decide +kernel
theorem dL_law_1723 : decode cL_law 1723 = .ok (.iadd, 1) := by decide +kernel
theorem dL_law_1724 : decode cL_law 1724 = .ok (.iaload, 1) := by decide +kernel
theorem dL_law_1725 : decode cL_law 1725 = .ok (.invokevirtual 184, 3) := by decide +kernel
theorem dL_law_1728 : decode cL_law 1728 = .ok (.istore 6, 2) := by decide +kernel
theorem dL_law_1730 : decode cL_law 1730 = .ok (.aload_n 2, 1) := by decide +kernel
theorem dL_law_1731 : decode cL_law 1731 = .ok (.invokevirtual 90, 3) := by decide +kernel
theorem dL_law_1734 : decode cL_law 1734 = .ok (.iload 5, 2) := by decide +kernel
theorem dL_law_1736 : decode cL_law 1736 = .ok (.if_icmp .eq 5, 3) := by decide +kernel
theorem dL_law_1741 : decode cL_law 1741 = .ok (.iload 5, 2) := by decide +kernel
theorem dL_law_1743 : decode cL_law 1743 = .ok (.ifCond .ne 15, 3) := by decide +kernel
theorem dL_law_1758 : decode cL_law 1758 = .ok (.goto 198, 3) := by decide +kernel
theorem dL_law_1761 : decode cL_law 1761 = .ok (.aload_n 1, 1) := by decide +kernel
theorem dL_law_1762 : decode cL_law 1762 = .ok (.aload_n 0, 1) := by decide +kernel
theorem dL_law_1763 : decode cL_law 1763 = .ok (.iload 4, 2) := by decide +kernel
theorem dL_law_1765 : decode cL_law 1765 = .ok (.iconst 1, 1) := by decide +kernel
theorem dL_law_1766 : decode cL_law 1766 = .ok (.iadd, 1) := by decide +kernel
theorem dL_law_1767 : decode cL_law 1767 = .ok (.iaload, 1) := by decide +kernel
theorem dL_law_1768 : decode cL_law 1768 = .ok (.aload_n 0, 1) := by decide +kernel
theorem dL_law_1769 : decode cL_law 1769 = .ok (.iload 4, 2) := by decide +kernel
theorem dL_law_1771 : decode cL_law 1771 = .ok (.iconst 2, 1) := by decide +kernel
theorem dL_law_1772 : decode cL_law 1772 = .ok (.iadd, 1) := by decide +kernel
theorem dL_law_1773 : decode cL_law 1773 = .ok (.iaload, 1) := by decide +kernel
theorem dL_law_1774 : decode cL_law 1774 = .ok (.aload_n 0, 1) := by decide +kernel
theorem dL_law_1775 : decode cL_law 1775 = .ok (.iload 4, 2) := by decide +kernel
theorem dL_law_1777 : decode cL_law 1777 = .ok (.iconst 3, 1) := by decide +kernel
theorem dL_law_1778 : decode cL_law 1778 = .ok (.iadd, 1) := by decide +kernel
theorem dL_law_1779 : decode cL_law 1779 = .ok (.iaload, 1) := by decide +kernel
theorem dL_law_1780 : decode cL_law 1780 = .ok (.aload_n 3, 1) := by decide +kernel
theorem dL_law_1781 : decode cL_law 1781 = .ok (.invokestatic 185, 3) := by decide +kernel
theorem dL_law_1784 : decode cL_law 1784 = .ok (.istore 5, 2) := by decide +kernel
theorem dL_law_1786 : decode cL_law 1786 = .ok (.aload_n 2, 1) := by decide +kernel
theorem dL_law_1787 : decode cL_law 1787 = .ok (.aload_n 0, 1) := by decide +kernel
theorem dL_law_1788 : decode cL_law 1788 = .ok (.iload 4, 2) := by decide +kernel
theorem dL_law_1790 : decode cL_law 1790 = .ok (.iconst 1, 1) := by decide +kernel
theorem dL_law_1791 : decode cL_law 1791 = .ok (.iadd, 1) := by decide +kernel
theorem dL_law_1792 : decode cL_law 1792 = .ok (.iaload, 1) := by decide +kernel
theorem dL_law_1793 : decode cL_law 1793 = .ok (.aload_n 0, 1) := by decide +kernel
theorem dL_law_1794 : decode cL_law 1794 = .ok (.iload 4, 2) := by decide +kernel
theorem dL_law_1796 : decode cL_law 1796 = .ok (.iconst 2, 1) := by decide +kernel
theorem dL_law_1797 : decode cL_law 1797 = .ok (.iadd, 1) := by decide +kernel
theorem dL_law_1798 : decode cL_law 1798 = .ok (.iaload, 1) := by decide +kernel
theorem dL_law_1799 : decode cL_law 1799 = .ok (.aload_n 0, 1) := by decide +kernel
theorem dL_law_1800 : decode cL_law 1800 = .ok (.iload 4, 2) := by decide +kernel
theorem dL_law_1802 : decode cL_law 1802 = .ok (.iconst 3, 1) := by decide +kernel
theorem dL_law_1803 : decode cL_law 1803 = .ok (.iadd, 1) := by decide +kernel
theorem dL_law_1804 : decode cL_law 1804 = .ok (.iaload, 1) := by decide +kernel
theorem dL_law_1805 : decode cL_law 1805 = .ok (.invokevirtual 187, 3) := by decide +kernel
theorem dL_law_1808 : decode cL_law 1808 = .ok (.istore 6, 2) := by decide +kernel
theorem dL_law_1810 : decode cL_law 1810 = .ok (.aload_n 2, 1) := by decide +kernel
theorem dL_law_1811 : decode cL_law 1811 = .ok (.invokevirtual 90, 3) := by decide +kernel
theorem dL_law_1814 : decode cL_law 1814 = .ok (.iload 5, 2) := by decide +kernel
theorem dL_law_1816 : decode cL_law 1816 = .ok (.if_icmp .eq 5, 3) := by decide +kernel
theorem dL_law_1821 : decode cL_law 1821 = .ok (.iload 5, 2) := by decide +kernel
theorem dL_law_1823 : decode cL_law 1823 = .ok (.ifCond .ne 15, 3) := by decide +kernel
theorem dL_law_1838 : decode cL_law 1838 = .ok (.goto 118, 3) := by decide +kernel
theorem dL_law_1841 : decode cL_law 1841 = .ok (.aload_n 1, 1) := by decide +kernel
theorem dL_law_1842 : decode cL_law 1842 = .ok (.invokevirtual 188, 3) := by decide +kernel
theorem dL_law_1845 : decode cL_law 1845 = .ok (.aload_n 2, 1) := by decide +kernel
theorem dL_law_1846 : decode cL_law 1846 = .ok (.invokevirtual 191, 3) := by decide +kernel
theorem dL_law_1849 : decode cL_law 1849 = .ok (.goto 107, 3) := by decide +kernel
theorem dL_law_1852 : decode cL_law 1852 = .ok (.aload_n 1, 1) := by decide +kernel
theorem dL_law_1853 : decode cL_law 1853 = .ok (.aload_n 0, 1) := by decide +kernel
theorem dL_law_1854 : decode cL_law 1854 = .ok (.iload 4, 2) := by decide +kernel
theorem dL_law_1856 : decode cL_law 1856 = .ok (.iconst 1, 1) := by decide +kernel
theorem dL_law_1857 : decode cL_law 1857 = .ok (.iadd, 1) := by decide +kernel
theorem dL_law_1858 : decode cL_law 1858 = .ok (.iaload, 1) := by decide +kernel
theorem dL_law_1859 : decode cL_law 1859 = .ok (.aload_n 0, 1) := by decide +kernel
theorem dL_law_1860 : decode cL_law 1860 = .ok (.iload 4, 2) := by decide +kernel
theorem dL_law_1862 : decode cL_law 1862 = .ok (.iconst 2, 1) := by decide +kernel
theorem dL_law_1863 : decode cL_law 1863 = .ok (.iadd, 1) := by decide +kernel
theorem dL_law_1864 : decode cL_law 1864 = .ok (.iaload, 1) := by decide +kernel
theorem dL_law_1865 : decode cL_law 1865 = .ok (.aload_n 0, 1) := by decide +kernel
theorem dL_law_1866 : decode cL_law 1866 = .ok (.iload 4, 2) := by decide +kernel
theorem dL_law_1868 : decode cL_law 1868 = .ok (.iconst 3, 1) := by decide +kernel
theorem dL_law_1869 : decode cL_law 1869 = .ok (.iadd, 1) := by decide +kernel
theorem dL_law_1870 : decode cL_law 1870 = .ok (.iaload, 1) := by decide +kernel
theorem dL_law_1871 : decode cL_law 1871 = .ok (.aload_n 3, 1) := by decide +kernel
theorem dL_law_1872 : decode cL_law 1872 = .ok (.invokestatic 192, 3) := by decide +kernel
theorem dL_law_1875 : decode cL_law 1875 = .ok (.istore 5, 2) := by decide +kernel
theorem dL_law_1877 : decode cL_law 1877 = .ok (.aload_n 2, 1) := by decide +kernel
theorem dL_law_1878 : decode cL_law 1878 = .ok (.aload_n 0, 1) := by decide +kernel
theorem dL_law_1879 : decode cL_law 1879 = .ok (.iload 4, 2) := by decide +kernel
theorem dL_law_1881 : decode cL_law 1881 = .ok (.iconst 1, 1) := by decide +kernel
theorem dL_law_1882 : decode cL_law 1882 = .ok (.iadd, 1) := by decide +kernel
theorem dL_law_1883 : decode cL_law 1883 = .ok (.iaload, 1) := by decide +kernel
theorem dL_law_1884 : decode cL_law 1884 = .ok (.aload_n 0, 1) := by decide +kernel
theorem dL_law_1885 : decode cL_law 1885 = .ok (.iload 4, 2) := by decide +kernel
theorem dL_law_1887 : decode cL_law 1887 = .ok (.iconst 2, 1) := by decide +kernel
theorem dL_law_1888 : decode cL_law 1888 = .ok (.iadd, 1) := by decide +kernel
theorem dL_law_1889 : decode cL_law 1889 = .ok (.iaload, 1) := by decide +kernel
theorem dL_law_1890 : decode cL_law 1890 = .ok (.aload_n 0, 1) := by decide +kernel
theorem dL_law_1891 : decode cL_law 1891 = .ok (.iload 4, 2) := by decide +kernel
theorem dL_law_1893 : decode cL_law 1893 = .ok (.iconst 3, 1) := by decide +kernel
theorem dL_law_1894 : decode cL_law 1894 = .ok (.iadd, 1) := by decide +kernel
theorem dL_law_1895 : decode cL_law 1895 = .ok (.iaload, 1) := by decide +kernel
theorem dL_law_1896 : decode cL_law 1896 = .ok (.invokevirtual 194, 3) := by decide +kernel
theorem dL_law_1899 : decode cL_law 1899 = .ok (.istore 6, 2) := by decide +kernel
theorem dL_law_1901 : decode cL_law 1901 = .ok (.aload_n 2, 1) := by decide +kernel
theorem dL_law_1902 : decode cL_law 1902 = .ok (.invokevirtual 90, 3) := by decide +kernel
theorem dL_law_1905 : decode cL_law 1905 = .ok (.iload 5, 2) := by decide +kernel
theorem dL_law_1907 : decode cL_law 1907 = .ok (.if_icmp .eq 5, 3) := by decide +kernel
theorem dL_law_1912 : decode cL_law 1912 = .ok (.iload 5, 2) := by decide +kernel
theorem dL_law_1914 : decode cL_law 1914 = .ok (.ifCond .ne 15, 3) := by decide +kernel
theorem dL_law_1917 : decode cL_law 1917 = .ok (.aload_n 3, 1) := by decide +kernel
theorem dL_law_1918 : decode cL_law 1918 = .ok (.iconst 0, 1) := by decide +kernel
theorem dL_law_1919 : decode cL_law 1919 = .ok (.laload, 1) := by decide +kernel
theorem dL_law_1920 : decode cL_law 1920 = .ok (.iload 6, 2) := by decide +kernel
theorem dL_law_1922 : decode cL_law 1922 = .ok (.i2l, 1) := by decide +kernel
theorem dL_law_1923 : decode cL_law 1923 = .ok (.lcmp, 1) := by decide +kernel
theorem dL_law_1924 : decode cL_law 1924 = .ok (.ifCond .eq 5, 3) := by decide +kernel
theorem dL_law_1929 : decode cL_law 1929 = .ok (.goto 27, 3) := by decide +kernel
theorem dL_law_1932 : decode cL_law 1932 = .ok (.aload_n 1, 1) := by decide +kernel
theorem dL_law_1933 : decode cL_law 1933 = .ok (.invokevirtual 195, 3) := by decide +kernel
theorem dL_law_1936 : decode cL_law 1936 = .ok (.aload_n 2, 1) := by decide +kernel
theorem dL_law_1937 : decode cL_law 1937 = .ok (.invokevirtual 198, 3) := by decide +kernel
theorem dL_law_1940 : decode cL_law 1940 = .ok (.goto 16, 3) := by decide +kernel
theorem dL_law_1943 : decode cL_law 1943 = .ok (.aload_n 1, 1) := by decide +kernel
theorem dL_law_1944 : decode cL_law 1944 = .ok (.invokevirtual 199, 3) := by decide +kernel
theorem dL_law_1947 : decode cL_law 1947 = .ok (.aload_n 2, 1) := by decide +kernel
theorem dL_law_1948 : decode cL_law 1948 = .ok (.invokevirtual 203, 3) := by decide +kernel
theorem dL_law_1951 : decode cL_law 1951 = .ok (.if_icmp .eq 5, 3) := by decide +kernel
theorem dL_law_1956 : decode cL_law 1956 = .ok (.iinc 4 6, 3) := by decide +kernel
theorem dL_law_1959 : decode cL_law 1959 = .ok (.goto (-1936), 3) := by decide +kernel
theorem dL_law_1962 : decode cL_law 1962 = .ok (.iconst 1, 1) := by decide +kernel
theorem dL_law_1963 : decode cL_law 1963 = .ok (.ireturn, 1) := by decide +kernel
