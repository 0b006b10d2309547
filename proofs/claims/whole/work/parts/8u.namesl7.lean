theorem dL_law_1739 : decode cL_law 1739 = .ok (.ifCond .ne 36, 3) := by decide +kernel
theorem dL_law_1742 : decode cL_law 1742 = .ok (.aload 4, 2) := by decide +kernel
theorem dL_law_1744 : decode cL_law 1744 = .ok (.iconst 0, 1) := by decide +kernel
theorem dL_law_1745 : decode cL_law 1745 = .ok (.daload, 1) := by decide +kernel
theorem dL_law_1746 : decode cL_law 1746 = .ok (.fload 7, 2) := by decide +kernel
theorem dL_law_1748 : decode cL_law 1748 = .ok (.f2d, 1) := by decide +kernel
theorem dL_law_1749 : decode cL_law 1749 = .ok (.dcmp .l, 1) := by decide +kernel
theorem dL_law_1750 : decode cL_law 1750 = .ok (.ifCond .eq 25, 3) := by decide +kernel
theorem dL_law_1753 : decode cL_law 1753 = .ok (.aload 4, 2) := by decide +kernel
theorem dL_law_1755 : decode cL_law 1755 = .ok (.iconst 0, 1) := by decide +kernel
theorem dL_law_1756 : decode cL_law 1756 = .ok (.daload, 1) := by decide +kernel
theorem dL_law_1757 : decode cL_law 1757 = .ok (.aload 4, 2) := by decide +kernel
theorem dL_law_1759 : decode cL_law 1759 = .ok (.iconst 0, 1) := by decide +kernel
theorem dL_law_1760 : decode cL_law 1760 = .ok (.daload, 1) := by decide +kernel
theorem dL_law_1761 : decode cL_law 1761 = .ok (.dcmp .l, 1) := by decide +kernel
theorem dL_law_1762 : decode cL_law 1762 = .ok (.ifCond .eq 11, 3) := by decide +kernel
theorem dL_law_1765 : decode cL_law 1765 = .ok (.fload 7, 2) := by decide +kernel
theorem dL_law_1767 : decode cL_law 1767 = .ok (.fload 7, 2) := by decide +kernel
theorem dL_law_1769 : decode cL_law 1769 = .ok (.fcmp .l, 1) := by decide +kernel
theorem dL_law_1770 : decode cL_law 1770 = .ok (.ifCond .ne 5, 3) := by decide +kernel
theorem dL_law_1773 : decode cL_law 1773 = .ok (.iconst 0, 1) := by decide +kernel
theorem dL_law_1774 : decode cL_law 1774 = .ok (.ireturn, 1) := by decide +kernel
theorem dL_law_1775 : decode cL_law 1775 = .ok (.goto 391, 3) := by decide +kernel
theorem dL_law_1778 : decode cL_law 1778 = .ok (.aload_n 1, 1) := by decide +kernel
theorem dL_law_1779 : decode cL_law 1779 = .ok (.aload_n 0, 1) := by decide +kernel
theorem dL_law_1780 : decode cL_law 1780 = .ok (.iload 5, 2) := by decide +kernel
theorem dL_law_1782 : decode cL_law 1782 = .ok (.iconst 1, 1) := by decide +kernel
theorem dL_law_1783 : decode cL_law 1783 = .ok (.iadd, 1) := by decide +kernel
theorem dL_law_1784 : decode cL_law 1784 = .ok (.iaload, 1) := by decide +kernel
theorem dL_law_1785 : decode cL_law 1785 = .ok (.aload 4, 2) := by decide +kernel
theorem dL_law_1787 : decode cL_law 1787 = .ok (.invokestatic 185, 3) := by decide +kernel
theorem dL_law_1790 : decode cL_law 1790 = .ok (.istore 6, 2) := by decide +kernel
theorem dL_law_1792 : decode cL_law 1792 = .ok (.aload_n 2, 1) := by decide +kernel
theorem dL_law_1793 : decode cL_law 1793 = .ok (.aload_n 0, 1) := by decide +kernel
theorem dL_law_1794 : decode cL_law 1794 = .ok (.iload 5, 2) := by decide +kernel
theorem dL_law_1796 : decode cL_law 1796 = .ok (.iconst 1, 1) := by decide +kernel
theorem dL_law_1797 : decode cL_law 1797 = .ok (.iadd, 1) := by decide +kernel
theorem dL_law_1798 : decode cL_law 1798 = .ok (.iaload, 1) := by decide +kernel
theorem dL_law_1799 : decode cL_law 1799 = .ok (.invokevirtual 187, 3) := by decide +kernel
theorem dL_law_1802 : decode cL_law 1802 = .ok (.dstore 7, 2) := by decide +kernel
theorem dL_law_1804 : decode cL_law 1804 = .ok (.aload_n 2, 1) := by decide +kernel
theorem dL_law_1805 : decode cL_law 1805 = .ok (.invokevirtual 114, 3) := by decide +kernel
theorem dL_law_1808 : decode cL_law 1808 = .ok (.iload 6, 2) := by decide +kernel
theorem dL_law_1810 : decode cL_law 1810 = .ok (.if_icmp .eq 5, 3) := by decide +kernel
theorem dL_law_1813 : decode cL_law 1813 = .ok (.iconst 0, 1) := by decide +kernel
theorem dL_law_1814 : decode cL_law 1814 = .ok (.ireturn, 1) := by decide +kernel
theorem dL_law_1815 : decode cL_law 1815 = .ok (.iload 6, 2) := by decide +kernel
theorem dL_law_1817 : decode cL_law 1817 = .ok (.ifCond .ne 35, 3) := by decide +kernel
theorem dL_law_1820 : decode cL_law 1820 = .ok (.aload 4, 2) := by decide +kernel
theorem dL_law_1822 : decode cL_law 1822 = .ok (.iconst 0, 1) := by decide +kernel
theorem dL_law_1823 : decode cL_law 1823 = .ok (.daload, 1) := by decide +kernel
theorem dL_law_1824 : decode cL_law 1824 = .ok (.dload 7, 2) := by decide +kernel
theorem dL_law_1826 : decode cL_law 1826 = .ok (.dcmp .l, 1) := by decide +kernel
theorem dL_law_1827 : decode cL_law 1827 = .ok (.ifCond .eq 25, 3) := by decide +kernel
theorem dL_law_1830 : decode cL_law 1830 = .ok (.aload 4, 2) := by decide +kernel
theorem dL_law_1832 : decode cL_law 1832 = .ok (.iconst 0, 1) := by decide +kernel
theorem dL_law_1833 : decode cL_law 1833 = .ok (.daload, 1) := by decide +kernel
theorem dL_law_1834 : decode cL_law 1834 = .ok (.aload 4, 2) := by decide +kernel
theorem dL_law_1836 : decode cL_law 1836 = .ok (.iconst 0, 1) := by decide +kernel
theorem dL_law_1837 : decode cL_law 1837 = .ok (.daload, 1) := by decide +kernel
theorem dL_law_1838 : decode cL_law 1838 = .ok (.dcmp .l, 1) := by decide +kernel
theorem dL_law_1839 : decode cL_law 1839 = .ok (.ifCond .eq 11, 3) := by decide +kernel
theorem dL_law_1842 : decode cL_law 1842 = .ok (.dload 7, 2) := by decide +kernel
theorem dL_law_1844 : decode cL_law 1844 = .ok (.dload 7, 2) := by decide +kernel
theorem dL_law_1846 : decode cL_law 1846 = .ok (.dcmp .l, 1) := by decide +kernel
theorem dL_law_1847 : decode cL_law 1847 = .ok (.ifCond .ne 5, 3) := by decide +kernel
theorem dL_law_1850 : decode cL_law 1850 = .ok (.iconst 0, 1) := by decide +kernel
theorem dL_law_1851 : decode cL_law 1851 = .ok (.ireturn, 1) := by decide +kernel
theorem dL_law_1852 : decode cL_law 1852 = .ok (.goto 314, 3) := by decide +kernel
theorem dL_law_1855 : decode cL_law 1855 = .ok (.aload_n 1, 1) := by decide +kernel
theorem dL_law_1856 : decode cL_law 1856 = .ok (.aload_n 0, 1) := by decide +kernel
theorem dL_law_1857 : decode cL_law 1857 = .ok (.iload 5, 2) := by decide +kernel
theorem dL_law_1859 : decode cL_law 1859 = .ok (.iconst 1, 1) := by decide +kernel
theorem dL_law_1860 : decode cL_law 1860 = .ok (.iadd, 1) := by decide +kernel
theorem dL_law_1861 : decode cL_law 1861 = .ok (.iaload, 1) := by decide +kernel
theorem dL_law_1862 : decode cL_law 1862 = .ok (.aload 4, 2) := by decide +kernel
theorem dL_law_1864 : decode cL_law 1864 = .ok (.invokestatic 188, 3) := by decide +kernel
theorem dL_law_1867 : decode cL_law 1867 = .ok (.istore 6, 2) := by decide +kernel
theorem dL_law_1869 : decode cL_law 1869 = .ok (.aload_n 2, 1) := by decide +kernel
theorem dL_law_1870 : decode cL_law 1870 = .ok (.aload_n 0, 1) := by decide +kernel
theorem dL_law_1871 : decode cL_law 1871 = .ok (.iload 5, 2) := by decide +kernel
theorem dL_law_1873 : decode cL_law 1873 = .ok (.iconst 1, 1) := by decide +kernel
theorem dL_law_1874 : decode cL_law 1874 = .ok (.iadd, 1) := by decide +kernel
theorem dL_law_1875 : decode cL_law 1875 = .ok (.iaload, 1) := by decide +kernel
theorem dL_law_1876 : decode cL_law 1876 = .ok (.invokevirtual 190, 3) := by decide +kernel
theorem dL_law_1879 : decode cL_law 1879 = .ok (.dstore 7, 2) := by decide +kernel
theorem dL_law_1881 : decode cL_law 1881 = .ok (.aload_n 2, 1) := by decide +kernel
theorem dL_law_1882 : decode cL_law 1882 = .ok (.invokevirtual 114, 3) := by decide +kernel
theorem dL_law_1885 : decode cL_law 1885 = .ok (.iload 6, 2) := by decide +kernel
theorem dL_law_1887 : decode cL_law 1887 = .ok (.if_icmp .eq 5, 3) := by decide +kernel
theorem dL_law_1890 : decode cL_law 1890 = .ok (.iconst 0, 1) := by decide +kernel
theorem dL_law_1891 : decode cL_law 1891 = .ok (.ireturn, 1) := by decide +kernel
theorem dL_law_1892 : decode cL_law 1892 = .ok (.iload 6, 2) := by decide +kernel
theorem dL_law_1894 : decode cL_law 1894 = .ok (.ifCond .ne 35, 3) := by decide +kernel
theorem dL_law_1897 : decode cL_law 1897 = .ok (.aload 4, 2) := by decide +kernel
theorem dL_law_1899 : decode cL_law 1899 = .ok (.iconst 0, 1) := by decide +kernel
theorem dL_law_1900 : decode cL_law 1900 = .ok (.daload, 1) := by decide +kernel
theorem dL_law_1901 : decode cL_law 1901 = .ok (.dload 7, 2) := by decide +kernel
theorem dL_law_1903 : decode cL_law 1903 = .ok (.dcmp .l, 1) := by decide +kernel
theorem dL_law_1904 : decode cL_law 1904 = .ok (.ifCond .eq 25, 3) := by decide +kernel
theorem dL_law_1907 : decode cL_law 1907 = .ok (.aload 4, 2) := by decide +kernel
theorem dL_law_1909 : decode cL_law 1909 = .ok (.iconst 0, 1) := by decide +kernel
theorem dL_law_1910 : decode cL_law 1910 = .ok (.daload, 1) := by decide +kernel
theorem dL_law_1911 : decode cL_law 1911 = .ok (.aload 4, 2) := by decide +kernel
theorem dL_law_1913 : decode cL_law 1913 = .ok (.iconst 0, 1) := by decide +kernel
theorem dL_law_1914 : decode cL_law 1914 = .ok (.daload, 1) := by decide +kernel
theorem dL_law_1915 : decode cL_law 1915 = .ok (.dcmp .l, 1) := by decide +kernel
theorem dL_law_1916 : decode cL_law 1916 = .ok (.ifCond .eq 11, 3) := by decide +kernel
theorem dL_law_1919 : decode cL_law 1919 = .ok (.dload 7, 2) := by decide +kernel
theorem dL_law_1921 : decode cL_law 1921 = .ok (.dload 7, 2) := by decide +kernel
theorem dL_law_1923 : decode cL_law 1923 = .ok (.dcmp .l, 1) := by decide +kernel
theorem dL_law_1924 : decode cL_law 1924 = .ok (.ifCond .ne 5, 3) := by decide +kernel
theorem dL_law_1927 : decode cL_law 1927 = .ok (.iconst 0, 1) := by decide +kernel
theorem dL_law_1928 : decode cL_law 1928 = .ok (.ireturn, 1) := by decide +kernel
theorem dL_law_1929 : decode cL_law 1929 = .ok (.goto 237, 3) := by decide +kernel
theorem dL_law_1932 : decode cL_law 1932 = .ok (.aload_n 1, 1) := by decide +kernel
theorem dL_law_1933 : decode cL_law 1933 = .ok (.aload_n 0, 1) := by decide +kernel
theorem dL_law_1934 : decode cL_law 1934 = .ok (.iload 5, 2) := by decide +kernel
theorem dL_law_1936 : decode cL_law 1936 = .ok (.iconst 1, 1) := by decide +kernel
theorem dL_law_1937 : decode cL_law 1937 = .ok (.iadd, 1) := by decide +kernel
theorem dL_law_1938 : decode cL_law 1938 = .ok (.iaload, 1) := by decide +kernel
theorem dL_law_1939 : decode cL_law 1939 = .ok (.aload_n 3, 1) := by decide +kernel
theorem dL_law_1940 : decode cL_law 1940 = .ok (.invokestatic 191, 3) := by decide +kernel
theorem dL_law_1943 : decode cL_law 1943 = .ok (.istore 6, 2) := by decide +kernel
theorem dL_law_1945 : decode cL_law 1945 = .ok (.aload_n 2, 1) := by decide +kernel
theorem dL_law_1946 : decode cL_law 1946 = .ok (.aload_n 0, 1) := by decide +kernel
theorem dL_law_1947 : decode cL_law 1947 = .ok (.iload 5, 2) := by decide +kernel
theorem dL_law_1949 : decode cL_law 1949 = .ok (.iconst 1, 1) := by decide +kernel
theorem dL_law_1950 : decode cL_law 1950 = .ok (.iadd, 1) := by decide +kernel
theorem dL_law_1951 : decode cL_law 1951 = .ok (.iaload, 1) := by decide +kernel
theorem dL_law_1952 : decode cL_law 1952 = .ok (.invokevirtual 193, 3) := by decide +kernel
theorem dL_law_1955 : decode cL_law 1955 = .ok (.istore 7, 2) := by decide +kernel
theorem dL_law_1957 : decode cL_law 1957 = .ok (.aload_n 2, 1) := by decide +kernel
theorem dL_law_1958 : decode cL_law 1958 = .ok (.invokevirtual 114, 3) := by decide +kernel
theorem dL_law_1961 : decode cL_law 1961 = .ok (.iload 6, 2) := by decide +kernel
theorem dL_law_1963 : decode cL_law 1963 = .ok (.if_icmp .eq 5, 3) := by decide +kernel
theorem dL_law_1966 : decode cL_law 1966 = .ok (.iconst 0, 1) := by decide +kernel
theorem dL_law_1967 : decode cL_law 1967 = .ok (.ireturn, 1) := by decide +kernel
theorem dL_law_1968 : decode cL_law 1968 = .ok (.iload 6, 2) := by decide +kernel
theorem dL_law_1970 : decode cL_law 1970 = .ok (.ifCond .ne 15, 3) := by decide +kernel
theorem dL_law_1973 : decode cL_law 1973 = .ok (.aload_n 3, 1) := by decide +kernel
theorem dL_law_1974 : decode cL_law 1974 = .ok (.iconst 0, 1) := by decide +kernel
theorem dL_law_1975 : decode cL_law 1975 = .ok (.laload, 1) := by decide +kernel
theorem dL_law_1976 : decode cL_law 1976 = .ok (.iload 7, 2) := by decide +kernel
theorem dL_law_1978 : decode cL_law 1978 = .ok (.i2l, 1) := by decide +kernel
theorem dL_law_1979 : decode cL_law 1979 = .ok (.lcmp, 1) := by decide +kernel
theorem dL_law_1980 : decode cL_law 1980 = .ok (.ifCond .eq 5, 3) := by decide +kernel
theorem dL_law_1983 : decode cL_law 1983 = .ok (.iconst 0, 1) := by decide +kernel
theorem dL_law_1984 : decode cL_law 1984 = .ok (.ireturn, 1) := by decide +kernel
theorem dL_law_1985 : decode cL_law 1985 = .ok (.goto 181, 3) := by decide +kernel
theorem dL_law_1988 : decode cL_law 1988 = .ok (.aload_n 1, 1) := by decide +kernel
theorem dL_law_1989 : decode cL_law 1989 = .ok (.aload_n 0, 1) := by decide +kernel
theorem dL_law_1990 : decode cL_law 1990 = .ok (.iload 5, 2) := by decide +kernel
theorem dL_law_1992 : decode cL_law 1992 = .ok (.iconst 1, 1) := by decide +kernel
theorem dL_law_1993 : decode cL_law 1993 = .ok (.iadd, 1) := by decide +kernel
theorem dL_law_1994 : decode cL_law 1994 = .ok (.iaload, 1) := by decide +kernel
theorem dL_law_1995 : decode cL_law 1995 = .ok (.aload_n 0, 1) := by decide +kernel
theorem dL_law_1996 : decode cL_law 1996 = .ok (.iload 5, 2) := by decide +kernel
theorem dL_law_1998 : decode cL_law 1998 = .ok (.iconst 2, 1) := by decide +kernel
theorem dL_law_1999 : decode cL_law 1999 = .ok (.iadd, 1) := by decide +kernel
theorem dL_law_2000 : decode cL_law 2000 = .ok (.iaload, 1) := by decide +kernel
theorem dL_law_2001 : decode cL_law 2001 = .ok (.aload_n 3, 1) := by decide +kernel
theorem dL_law_2002 : decode cL_law 2002 = .ok (.invokestatic 194, 3) := by decide +kernel
theorem dL_law_2005 : decode cL_law 2005 = .ok (.istore 6, 2) := by decide +kernel
theorem dL_law_2007 : decode cL_law 2007 = .ok (.aload_n 2, 1) := by decide +kernel
theorem dL_law_2008 : decode cL_law 2008 = .ok (.aload_n 0, 1) := by decide +kernel
theorem dL_law_2009 : decode cL_law 2009 = .ok (.iload 5, 2) := by decide +kernel
theorem dL_law_2011 : decode cL_law 2011 = .ok (.iconst 1, 1) := by decide +kernel
theorem dL_law_2012 : decode cL_law 2012 = .ok (.iadd, 1) := by decide +kernel
theorem dL_law_2013 : decode cL_law 2013 = .ok (.iaload, 1) := by decide +kernel
theorem dL_law_2014 : decode cL_law 2014 = .ok (.aload_n 0, 1) := by decide +kernel
theorem dL_law_2015 : decode cL_law 2015 = .ok (.iload 5, 2) := by decide +kernel
theorem dL_law_2017 : decode cL_law 2017 = .ok (.iconst 2, 1) := by decide +kernel
theorem dL_law_2018 : decode cL_law 2018 = .ok (.iadd, 1) := by decide +kernel
theorem dL_law_2019 : decode cL_law 2019 = .ok (.iaload, 1) := by decide +kernel
theorem dL_law_2020 : decode cL_law 2020 = .ok (.invokevirtual 196, 3) := by decide +kernel
theorem dL_law_2023 : decode cL_law 2023 = .ok (.lstore 7, 2) := by decide +kernel
theorem dL_law_2025 : decode cL_law 2025 = .ok (.aload_n 2, 1) := by decide +kernel
theorem dL_law_2026 : decode cL_law 2026 = .ok (.invokevirtual 114, 3) := by decide +kernel
theorem dL_law_2029 : decode cL_law 2029 = .ok (.iload 6, 2) := by decide +kernel
theorem dL_law_2031 : decode cL_law 2031 = .ok (.if_icmp .eq 5, 3) := by decide +kernel
theorem dL_law_2034 : decode cL_law 2034 = .ok (.iconst 0, 1) := by decide +kernel
theorem dL_law_2035 : decode cL_law 2035 = .ok (.ireturn, 1) := by decide +kernel
theorem dL_law_2036 : decode cL_law 2036 = .ok (.iload 6, 2) := by decide +kernel
theorem dL_law_2038 : decode cL_law 2038 = .ok (.ifCond .ne 14, 3) := by decide +kernel
theorem dL_law_2041 : decode cL_law 2041 = .ok (.aload_n 3, 1) := by decide +kernel
theorem dL_law_2042 : decode cL_law 2042 = .ok (.iconst 0, 1) := by decide +kernel
theorem dL_law_2043 : decode cL_law 2043 = .ok (.laload, 1) := by decide +kernel
theorem dL_law_2044 : decode cL_law 2044 = .ok (.lload 7, 2) := by decide +kernel
theorem dL_law_2046 : decode cL_law 2046 = .ok (.lcmp, 1) := by decide +kernel
theorem dL_law_2047 : decode cL_law 2047 = .ok (.ifCond .eq 5, 3) := by decide +kernel
theorem dL_law_2050 : decode cL_law 2050 = .ok (.iconst 0, 1) := by decide +kernel
theorem dL_law_2051 : decode cL_law 2051 = .ok (.ireturn, 1) := by decide +kernel
theorem dL_law_2052 : decode cL_law 2052 = .ok (.goto 114, 3) := by decide +kernel
theorem dL_law_2055 : decode cL_law 2055 = .ok (.aload_n 1, 1) := by decide +kernel
theorem dL_law_2056 : decode cL_law 2056 = .ok (.aload_n 0, 1) := by decide +kernel
theorem dL_law_2057 : decode cL_law 2057 = .ok (.iload 5, 2) := by decide +kernel
theorem dL_law_2059 : decode cL_law 2059 = .ok (.iconst 1, 1) := by decide +kernel
theorem dL_law_2060 : decode cL_law 2060 = .ok (.iadd, 1) := by decide +kernel
theorem dL_law_2061 : decode cL_law 2061 = .ok (.iaload, 1) := by decide +kernel
theorem dL_law_2062 : decode cL_law 2062 = .ok (.aload_n 3, 1) := by decide +kernel
theorem dL_law_2063 : decode cL_law 2063 = .ok (.invokestatic 197, 3) := by decide +kernel
theorem dL_law_2066 : decode cL_law 2066 = .ok (.istore 6, 2) := by decide +kernel
theorem dL_law_2068 : decode cL_law 2068 = .ok (.aload_n 2, 1) := by decide +kernel
theorem dL_law_2069 : decode cL_law 2069 = .ok (.aload_n 0, 1) := by decide +kernel
theorem dL_law_2070 : decode cL_law 2070 = .ok (.iload 5, 2) := by decide +kernel
theorem dL_law_2072 : decode cL_law 2072 = .ok (.iconst 1, 1) := by decide +kernel
theorem dL_law_2073 : decode cL_law 2073 = .ok (.iadd, 1) := by decide +kernel
theorem dL_law_2074 : decode cL_law 2074 = .ok (.iaload, 1) := by decide +kernel
theorem dL_law_2075 : decode cL_law 2075 = .ok (.invokevirtual 199, 3) := by decide +kernel
theorem dL_law_2078 : decode cL_law 2078 = .ok (.lstore 7, 2) := by decide +kernel
theorem dL_law_2080 : decode cL_law 2080 = .ok (.aload_n 2, 1) := by decide +kernel
theorem dL_law_2081 : decode cL_law 2081 = .ok (.invokevirtual 114, 3) := by decide +kernel
theorem dL_law_2084 : decode cL_law 2084 = .ok (.iload 6, 2) := by decide +kernel
theorem dL_law_2086 : decode cL_law 2086 = .ok (.if_icmp .eq 5, 3) := by decide +kernel
theorem dL_law_2089 : decode cL_law 2089 = .ok (.iconst 0, 1) := by decide +kernel
theorem dL_law_2090 : decode cL_law 2090 = .ok (.ireturn, 1) := by decide +kernel
theorem dL_law_2091 : decode cL_law 2091 = .ok (.iload 6, 2) := by decide +kernel
theorem dL_law_2093 : decode cL_law 2093 = .ok (.ifCond .ne 14, 3) := by decide +kernel
theorem dL_law_2096 : decode cL_law 2096 = .ok (.aload_n 3, 1) := by decide +kernel
theorem dL_law_2097 : decode cL_law 2097 = .ok (.iconst 0, 1) := by decide +kernel
theorem dL_law_2098 : decode cL_law 2098 = .ok (.laload, 1) := by decide +kernel
theorem dL_law_2099 : decode cL_law 2099 = .ok (.lload 7, 2) := by decide +kernel
theorem dL_law_2101 : decode cL_law 2101 = .ok (.lcmp, 1) := by decide +kernel
theorem dL_law_2102 : decode cL_law 2102 = .ok (.ifCond .eq 5, 3) := by decide +kernel
theorem dL_law_2105 : decode cL_law 2105 = .ok (.iconst 0, 1) := by decide +kernel
theorem dL_law_2106 : decode cL_law 2106 = .ok (.ireturn, 1) := by decide +kernel
theorem dL_law_2107 : decode cL_law 2107 = .ok (.goto 59, 3) := by decide +kernel
theorem dL_law_2110 : decode cL_law 2110 = .ok (.aload_n 1, 1) := by decide +kernel
theorem dL_law_2111 : decode cL_law 2111 = .ok (.aload_n 0, 1) := by decide +kernel
theorem dL_law_2112 : decode cL_law 2112 = .ok (.iload 5, 2) := by decide +kernel
theorem dL_law_2114 : decode cL_law 2114 = .ok (.iconst 1, 1) := by decide +kernel
theorem dL_law_2115 : decode cL_law 2115 = .ok (.iadd, 1) := by decide +kernel
theorem dL_law_2116 : decode cL_law 2116 = .ok (.iaload, 1) := by decide +kernel
theorem dL_law_2117 : decode cL_law 2117 = .ok (.aload_n 3, 1) := by decide +kernel
theorem dL_law_2118 : decode cL_law 2118 = .ok (.invokestatic 200, 3) := by decide +kernel
theorem dL_law_2121 : decode cL_law 2121 = .ok (.istore 6, 2) := by decide +kernel
theorem dL_law_2123 : decode cL_law 2123 = .ok (.aload_n 2, 1) := by decide +kernel
theorem dL_law_2124 : decode cL_law 2124 = .ok (.aload_n 0, 1) := by decide +kernel
theorem dL_law_2125 : decode cL_law 2125 = .ok (.iload 5, 2) := by decide +kernel
theorem dL_law_2127 : decode cL_law 2127 = .ok (.iconst 1, 1) := by decide +kernel
theorem dL_law_2128 : decode cL_law 2128 = .ok (.iadd, 1) := by decide +kernel
theorem dL_law_2129 : decode cL_law 2129 = .ok (.iaload, 1) := by decide +kernel
theorem dL_law_2130 : decode cL_law 2130 = .ok (.invokevirtual 202, 3) := by decide +kernel
theorem dL_law_2133 : decode cL_law 2133 = .ok (.istore 7, 2) := by decide +kernel
theorem dL_law_2135 : decode cL_law 2135 = .ok (.aload_n 2, 1) := by decide +kernel
theorem dL_law_2136 : decode cL_law 2136 = .ok (.invokevirtual 114, 3) := by decide +kernel
theorem dL_law_2139 : decode cL_law 2139 = .ok (.iload 6, 2) := by decide +kernel
theorem dL_law_2141 : decode cL_law 2141 = .ok (.if_icmp .eq 5, 3) := by decide +kernel
theorem dL_law_2144 : decode cL_law 2144 = .ok (.iconst 0, 1) := by decide +kernel
theorem dL_law_2145 : decode cL_law 2145 = .ok (.ireturn, 1) := by decide +kernel
theorem dL_law_2146 : decode cL_law 2146 = .ok (.iload 6, 2) := by decide +kernel
theorem dL_law_2148 : decode cL_law 2148 = .ok (.ifCond .ne 15, 3) := by decide +kernel
theorem dL_law_2151 : decode cL_law 2151 = .ok (.aload_n 3, 1) := by decide +kernel
theorem dL_law_2152 : decode cL_law 2152 = .ok (.iconst 0, 1) := by decide +kernel
theorem dL_law_2153 : decode cL_law 2153 = .ok (.laload, 1) := by decide +kernel
theorem dL_law_2154 : decode cL_law 2154 = .ok (.iload 7, 2) := by decide +kernel
theorem dL_law_2156 : decode cL_law 2156 = .ok (.i2l, 1) := by decide +kernel
theorem dL_law_2157 : decode cL_law 2157 = .ok (.lcmp, 1) := by decide +kernel
theorem dL_law_2158 : decode cL_law 2158 = .ok (.ifCond .eq 5, 3) := by decide +kernel
theorem dL_law_2161 : decode cL_law 2161 = .ok (.iconst 0, 1) := by decide +kernel
theorem dL_law_2162 : decode cL_law 2162 = .ok (.ireturn, 1) := by decide +kernel
theorem dL_law_2163 : decode cL_law 2163 = .ok (.goto 3, 3) := by decide +kernel
theorem dL_law_2166 : decode cL_law 2166 = .ok (.iinc 5 5, 3) := by decide +kernel
theorem dL_law_2169 : decode cL_law 2169 = .ok (.goto (-2141), 3) := by decide +kernel
theorem dL_law_2172 : decode cL_law 2172 = .ok (.iconst 1, 1) := by decide +kernel
theorem dL_law_2173 : decode cL_law 2173 = .ok (.ireturn, 1) := by decide +kernel
