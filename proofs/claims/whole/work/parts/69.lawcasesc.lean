/-! PART 69: the law's cases -/
theorem dL_law_1774 : decode cL_law 1774 = .ok (.aload_n 1, 1) := by decide +kernel
theorem dL_law_1775 : decode cL_law 1775 = .ok (.aload_n 0, 1) := by decide +kernel
theorem dL_law_1776 : decode cL_law 1776 = .ok (.iload 4, 2) := by decide +kernel
theorem dL_law_1778 : decode cL_law 1778 = .ok (.iconst 1, 1) := by decide +kernel
theorem dL_law_1779 : decode cL_law 1779 = .ok (.iadd, 1) := by decide +kernel
theorem dL_law_1780 : decode cL_law 1780 = .ok (.iaload, 1) := by decide +kernel
theorem dL_law_1781 : decode cL_law 1781 = .ok (.aload_n 0, 1) := by decide +kernel
theorem dL_law_1782 : decode cL_law 1782 = .ok (.iload 4, 2) := by decide +kernel
theorem dL_law_1784 : decode cL_law 1784 = .ok (.iconst 2, 1) := by decide +kernel
theorem dL_law_1785 : decode cL_law 1785 = .ok (.iadd, 1) := by decide +kernel
theorem dL_law_1786 : decode cL_law 1786 = .ok (.iaload, 1) := by decide +kernel
theorem dL_law_1787 : decode cL_law 1787 = .ok (.aload_n 3, 1) := by decide +kernel
theorem dL_law_1788 : decode cL_law 1788 = .ok (.invokestatic 220, 3) := by decide +kernel
theorem dL_law_1791 : decode cL_law 1791 = .ok (.istore 5, 2) := by decide +kernel
theorem dL_law_1793 : decode cL_law 1793 = .ok (.aload_n 2, 1) := by decide +kernel
theorem dL_law_1794 : decode cL_law 1794 = .ok (.aload_n 0, 1) := by decide +kernel
theorem dL_law_1795 : decode cL_law 1795 = .ok (.iload 4, 2) := by decide +kernel
theorem dL_law_1797 : decode cL_law 1797 = .ok (.iconst 1, 1) := by decide +kernel
theorem dL_law_1798 : decode cL_law 1798 = .ok (.iadd, 1) := by decide +kernel
theorem dL_law_1799 : decode cL_law 1799 = .ok (.iaload, 1) := by decide +kernel
theorem dL_law_1800 : decode cL_law 1800 = .ok (.aload_n 0, 1) := by decide +kernel
theorem dL_law_1801 : decode cL_law 1801 = .ok (.iload 4, 2) := by decide +kernel
theorem dL_law_1803 : decode cL_law 1803 = .ok (.iconst 2, 1) := by decide +kernel
theorem dL_law_1804 : decode cL_law 1804 = .ok (.iadd, 1) := by decide +kernel
theorem dL_law_1805 : decode cL_law 1805 = .ok (.iaload, 1) := by decide +kernel
theorem dL_law_1806 : decode cL_law 1806 = .ok (.invokevirtual 222, 3) := by decide +kernel
theorem dL_law_1809 : decode cL_law 1809 = .ok (.istore 6, 2) := by decide +kernel
theorem dL_law_1811 : decode cL_law 1811 = .ok (.aload_n 2, 1) := by decide +kernel
theorem dL_law_1812 : decode cL_law 1812 = .ok (.invokevirtual 150, 3) := by decide +kernel
theorem dL_law_1815 : decode cL_law 1815 = .ok (.iload 5, 2) := by decide +kernel
theorem dL_law_1817 : decode cL_law 1817 = .ok (.if_icmp .eq 5, 3) := by decide +kernel
theorem dL_law_1822 : decode cL_law 1822 = .ok (.iload 5, 2) := by decide +kernel
theorem dL_law_1824 : decode cL_law 1824 = .ok (.ifCond .ne 16, 3) := by decide +kernel
theorem dL_law_1827 : decode cL_law 1827 = .ok (.aload_n 3, 1) := by decide +kernel
theorem dL_law_1828 : decode cL_law 1828 = .ok (.getfield 13, 3) := by decide +kernel
theorem dL_law_1831 : decode cL_law 1831 = .ok (.iload 6, 2) := by decide +kernel
theorem dL_law_1833 : decode cL_law 1833 = .ok (.i2l, 1) := by decide +kernel
theorem dL_law_1834 : decode cL_law 1834 = .ok (.lcmp, 1) := by decide +kernel
theorem dL_law_1835 : decode cL_law 1835 = .ok (.ifCond .eq 5, 3) := by decide +kernel
theorem dL_law_1840 : decode cL_law 1840 = .ok (.goto 968, 3) := by decide +kernel
theorem dL_law_1843 : decode cL_law 1843 = .ok (.aload_n 1, 1) := by decide +kernel
theorem dL_law_1844 : decode cL_law 1844 = .ok (.aload_n 0, 1) := by decide +kernel
theorem dL_law_1845 : decode cL_law 1845 = .ok (.iload 4, 2) := by decide +kernel
theorem dL_law_1847 : decode cL_law 1847 = .ok (.iconst 1, 1) := by decide +kernel
theorem dL_law_1848 : decode cL_law 1848 = .ok (.iadd, 1) := by decide +kernel
theorem dL_law_1849 : decode cL_law 1849 = .ok (.iaload, 1) := by decide +kernel
theorem dL_law_1850 : decode cL_law 1850 = .ok (.aload_n 0, 1) := by decide +kernel
theorem dL_law_1851 : decode cL_law 1851 = .ok (.iload 4, 2) := by decide +kernel
theorem dL_law_1853 : decode cL_law 1853 = .ok (.iconst 2, 1) := by decide +kernel
theorem dL_law_1854 : decode cL_law 1854 = .ok (.iadd, 1) := by decide +kernel
theorem dL_law_1855 : decode cL_law 1855 = .ok (.iaload, 1) := by decide +kernel
theorem dL_law_1856 : decode cL_law 1856 = .ok (.aload_n 0, 1) := by decide +kernel
theorem dL_law_1857 : decode cL_law 1857 = .ok (.iload 4, 2) := by decide +kernel
theorem dL_law_1859 : decode cL_law 1859 = .ok (.iconst 3, 1) := by decide +kernel
theorem dL_law_1860 : decode cL_law 1860 = .ok (.iadd, 1) := by decide +kernel
theorem dL_law_1861 : decode cL_law 1861 = .ok (.iaload, 1) := by decide +kernel
theorem dL_law_1862 : decode cL_law 1862 = .ok (.aload_n 3, 1) := by decide +kernel
theorem dL_law_1863 : decode cL_law 1863 = .ok (.invokestatic 223, 3) := by decide +kernel
theorem dL_law_1866 : decode cL_law 1866 = .ok (.istore 5, 2) := by decide +kernel
theorem dL_law_1868 : decode cL_law 1868 = .ok (.aload_n 2, 1) := by decide +kernel
theorem dL_law_1869 : decode cL_law 1869 = .ok (.aload_n 0, 1) := by decide +kernel
theorem dL_law_1870 : decode cL_law 1870 = .ok (.iload 4, 2) := by decide +kernel
theorem dL_law_1872 : decode cL_law 1872 = .ok (.iconst 1, 1) := by decide +kernel
theorem dL_law_1873 : decode cL_law 1873 = .ok (.iadd, 1) := by decide +kernel
theorem dL_law_1874 : decode cL_law 1874 = .ok (.iaload, 1) := by decide +kernel
theorem dL_law_1875 : decode cL_law 1875 = .ok (.aload_n 0, 1) := by decide +kernel
theorem dL_law_1876 : decode cL_law 1876 = .ok (.iload 4, 2) := by decide +kernel
theorem dL_law_1878 : decode cL_law 1878 = .ok (.iconst 2, 1) := by decide +kernel
theorem dL_law_1879 : decode cL_law 1879 = .ok (.iadd, 1) := by decide +kernel
theorem dL_law_1880 : decode cL_law 1880 = .ok (.iaload, 1) := by decide +kernel
theorem dL_law_1881 : decode cL_law 1881 = .ok (.aload_n 0, 1) := by decide +kernel
theorem dL_law_1882 : decode cL_law 1882 = .ok (.iload 4, 2) := by decide +kernel
theorem dL_law_1884 : decode cL_law 1884 = .ok (.iconst 3, 1) := by decide +kernel
theorem dL_law_1885 : decode cL_law 1885 = .ok (.iadd, 1) := by decide +kernel
theorem dL_law_1886 : decode cL_law 1886 = .ok (.iaload, 1) := by decide +kernel
theorem dL_law_1887 : decode cL_law 1887 = .ok (.invokevirtual 225, 3) := by decide +kernel
theorem dL_law_1890 : decode cL_law 1890 = .ok (.istore 6, 2) := by decide +kernel
theorem dL_law_1892 : decode cL_law 1892 = .ok (.aload_n 2, 1) := by decide +kernel
theorem dL_law_1893 : decode cL_law 1893 = .ok (.invokevirtual 150, 3) := by decide +kernel
theorem dL_law_1896 : decode cL_law 1896 = .ok (.iload 5, 2) := by decide +kernel
theorem dL_law_1898 : decode cL_law 1898 = .ok (.if_icmp .eq 5, 3) := by decide +kernel
theorem dL_law_1903 : decode cL_law 1903 = .ok (.iload 5, 2) := by decide +kernel
theorem dL_law_1905 : decode cL_law 1905 = .ok (.ifCond .ne 16, 3) := by decide +kernel
theorem dL_law_1908 : decode cL_law 1908 = .ok (.aload_n 3, 1) := by decide +kernel
theorem dL_law_1909 : decode cL_law 1909 = .ok (.getfield 13, 3) := by decide +kernel
theorem dL_law_1912 : decode cL_law 1912 = .ok (.iload 6, 2) := by decide +kernel
theorem dL_law_1914 : decode cL_law 1914 = .ok (.i2l, 1) := by decide +kernel
theorem dL_law_1915 : decode cL_law 1915 = .ok (.lcmp, 1) := by decide +kernel
theorem dL_law_1916 : decode cL_law 1916 = .ok (.ifCond .eq 5, 3) := by decide +kernel
theorem dL_law_1921 : decode cL_law 1921 = .ok (.goto 887, 3) := by decide +kernel
theorem dL_law_1924 : decode cL_law 1924 = .ok (.aload_n 1, 1) := by decide +kernel
theorem dL_law_1925 : decode cL_law 1925 = .ok (.aload_n 0, 1) := by decide +kernel
theorem dL_law_1926 : decode cL_law 1926 = .ok (.iload 4, 2) := by decide +kernel
theorem dL_law_1928 : decode cL_law 1928 = .ok (.iconst 1, 1) := by decide +kernel
theorem dL_law_1929 : decode cL_law 1929 = .ok (.iadd, 1) := by decide +kernel
theorem dL_law_1930 : decode cL_law 1930 = .ok (.iaload, 1) := by decide +kernel
theorem dL_law_1931 : decode cL_law 1931 = .ok (.aload_n 3, 1) := by decide +kernel
theorem dL_law_1932 : decode cL_law 1932 = .ok (.invokestatic 226, 3) := by decide +kernel
theorem dL_law_1935 : decode cL_law 1935 = .ok (.istore 5, 2) := by decide +kernel
theorem dL_law_1937 : decode cL_law 1937 = .ok (.aload_n 2, 1) := by decide +kernel
theorem dL_law_1938 : decode cL_law 1938 = .ok (.aload_n 0, 1) := by decide +kernel
theorem dL_law_1939 : decode cL_law 1939 = .ok (.iload 4, 2) := by decide +kernel
theorem dL_law_1941 : decode cL_law 1941 = .ok (.iconst 1, 1) := by decide +kernel
theorem dL_law_1942 : decode cL_law 1942 = .ok (.iadd, 1) := by decide +kernel
theorem dL_law_1943 : decode cL_law 1943 = .ok (.iaload, 1) := by decide +kernel
theorem dL_law_1944 : decode cL_law 1944 = .ok (.invokevirtual 228, 3) := by decide +kernel
theorem dL_law_1947 : decode cL_law 1947 = .ok (.istore 6, 2) := by decide +kernel
theorem dL_law_1949 : decode cL_law 1949 = .ok (.aload_n 2, 1) := by decide +kernel
theorem dL_law_1950 : decode cL_law 1950 = .ok (.invokevirtual 150, 3) := by decide +kernel
theorem dL_law_1953 : decode cL_law 1953 = .ok (.iload 5, 2) := by decide +kernel
theorem dL_law_1955 : decode cL_law 1955 = .ok (.if_icmp .eq 5, 3) := by decide +kernel
theorem dL_law_1960 : decode cL_law 1960 = .ok (.iload 5, 2) := by decide +kernel
theorem dL_law_1962 : decode cL_law 1962 = .ok (.ifCond .ne 16, 3) := by decide +kernel
theorem dL_law_1965 : decode cL_law 1965 = .ok (.aload_n 3, 1) := by decide +kernel
theorem dL_law_1966 : decode cL_law 1966 = .ok (.getfield 13, 3) := by decide +kernel
theorem dL_law_1969 : decode cL_law 1969 = .ok (.iload 6, 2) := by decide +kernel
theorem dL_law_1971 : decode cL_law 1971 = .ok (.i2l, 1) := by decide +kernel
theorem dL_law_1972 : decode cL_law 1972 = .ok (.lcmp, 1) := by decide +kernel
theorem dL_law_1973 : decode cL_law 1973 = .ok (.ifCond .eq 5, 3) := by decide +kernel
theorem dL_law_1978 : decode cL_law 1978 = .ok (.goto 830, 3) := by decide +kernel
theorem dL_law_1981 : decode cL_law 1981 = .ok (.aload_n 1, 1) := by decide +kernel
theorem dL_law_1982 : decode cL_law 1982 = .ok (.aload_n 0, 1) := by decide +kernel
theorem dL_law_1983 : decode cL_law 1983 = .ok (.iload 4, 2) := by decide +kernel
theorem dL_law_1985 : decode cL_law 1985 = .ok (.iconst 1, 1) := by decide +kernel
theorem dL_law_1986 : decode cL_law 1986 = .ok (.iadd, 1) := by decide +kernel
theorem dL_law_1987 : decode cL_law 1987 = .ok (.iaload, 1) := by decide +kernel
theorem dL_law_1988 : decode cL_law 1988 = .ok (.aload_n 0, 1) := by decide +kernel
theorem dL_law_1989 : decode cL_law 1989 = .ok (.iload 4, 2) := by decide +kernel
theorem dL_law_1991 : decode cL_law 1991 = .ok (.iconst 2, 1) := by decide +kernel
theorem dL_law_1992 : decode cL_law 1992 = .ok (.iadd, 1) := by decide +kernel
theorem dL_law_1993 : decode cL_law 1993 = .ok (.iaload, 1) := by decide +kernel
theorem dL_law_1994 : decode cL_law 1994 = .ok (.aload_n 3, 1) := by decide +kernel
theorem dL_law_1995 : decode cL_law 1995 = .ok (.invokestatic 229, 3) := by decide +kernel
theorem dL_law_1998 : decode cL_law 1998 = .ok (.istore 5, 2) := by decide +kernel
theorem dL_law_2000 : decode cL_law 2000 = .ok (.aload_n 2, 1) := by decide +kernel
theorem dL_law_2001 : decode cL_law 2001 = .ok (.aload_n 0, 1) := by decide +kernel
theorem dL_law_2002 : decode cL_law 2002 = .ok (.iload 4, 2) := by decide +kernel
theorem dL_law_2004 : decode cL_law 2004 = .ok (.iconst 1, 1) := by decide +kernel
theorem dL_law_2005 : decode cL_law 2005 = .ok (.iadd, 1) := by decide +kernel
theorem dL_law_2006 : decode cL_law 2006 = .ok (.iaload, 1) := by decide +kernel
theorem dL_law_2007 : decode cL_law 2007 = .ok (.aload_n 0, 1) := by decide +kernel
theorem dL_law_2008 : decode cL_law 2008 = .ok (.iload 4, 2) := by decide +kernel
theorem dL_law_2010 : decode cL_law 2010 = .ok (.iconst 2, 1) := by decide +kernel
theorem dL_law_2011 : decode cL_law 2011 = .ok (.iadd, 1) := by decide +kernel
theorem dL_law_2012 : decode cL_law 2012 = .ok (.iaload, 1) := by decide +kernel
theorem dL_law_2013 : decode cL_law 2013 = .ok (.invokevirtual 231, 3) := by decide +kernel
theorem dL_law_2016 : decode cL_law 2016 = .ok (.istore 6, 2) := by decide +kernel
theorem dL_law_2018 : decode cL_law 2018 = .ok (.aload_n 2, 1) := by decide +kernel
theorem dL_law_2019 : decode cL_law 2019 = .ok (.invokevirtual 150, 3) := by decide +kernel
theorem dL_law_2022 : decode cL_law 2022 = .ok (.iload 5, 2) := by decide +kernel
theorem dL_law_2024 : decode cL_law 2024 = .ok (.if_icmp .eq 5, 3) := by decide +kernel
theorem dL_law_2029 : decode cL_law 2029 = .ok (.iload 5, 2) := by decide +kernel
theorem dL_law_2031 : decode cL_law 2031 = .ok (.ifCond .ne 16, 3) := by decide +kernel
theorem dL_law_2034 : decode cL_law 2034 = .ok (.aload_n 3, 1) := by decide +kernel
theorem dL_law_2035 : decode cL_law 2035 = .ok (.getfield 13, 3) := by decide +kernel
theorem dL_law_2038 : decode cL_law 2038 = .ok (.iload 6, 2) := by decide +kernel
theorem dL_law_2040 : decode cL_law 2040 = .ok (.i2l, 1) := by decide +kernel
theorem dL_law_2041 : decode cL_law 2041 = .ok (.lcmp, 1) := by decide +kernel
theorem dL_law_2042 : decode cL_law 2042 = .ok (.ifCond .eq 5, 3) := by decide +kernel
theorem dL_law_2047 : decode cL_law 2047 = .ok (.goto 761, 3) := by decide +kernel
theorem dL_law_2050 : decode cL_law 2050 = .ok (.aload_n 1, 1) := by decide +kernel
theorem dL_law_2051 : decode cL_law 2051 = .ok (.aload_n 0, 1) := by decide +kernel
theorem dL_law_2052 : decode cL_law 2052 = .ok (.iload 4, 2) := by decide +kernel
theorem dL_law_2054 : decode cL_law 2054 = .ok (.iconst 1, 1) := by decide +kernel
theorem dL_law_2055 : decode cL_law 2055 = .ok (.iadd, 1) := by decide +kernel
theorem dL_law_2056 : decode cL_law 2056 = .ok (.iaload, 1) := by decide +kernel
theorem dL_law_2057 : decode cL_law 2057 = .ok (.aload_n 3, 1) := by decide +kernel
theorem dL_law_2058 : decode cL_law 2058 = .ok (.invokestatic 232, 3) := by decide +kernel
theorem dL_law_2061 : decode cL_law 2061 = .ok (.istore 5, 2) := by decide +kernel
theorem dL_law_2063 : decode cL_law 2063 = .ok (.aload_n 2, 1) := by decide +kernel
theorem dL_law_2064 : decode cL_law 2064 = .ok (.aload_n 0, 1) := by decide +kernel
theorem dL_law_2065 : decode cL_law 2065 = .ok (.iload 4, 2) := by decide +kernel
theorem dL_law_2067 : decode cL_law 2067 = .ok (.iconst 1, 1) := by decide +kernel
theorem dL_law_2068 : decode cL_law 2068 = .ok (.iadd, 1) := by decide +kernel
theorem dL_law_2069 : decode cL_law 2069 = .ok (.iaload, 1) := by decide +kernel
theorem dL_law_2070 : decode cL_law 2070 = .ok (.invokevirtual 234, 3) := by decide +kernel
theorem dL_law_2073 : decode cL_law 2073 = .ok (.istore 6, 2) := by decide +kernel
theorem dL_law_2075 : decode cL_law 2075 = .ok (.aload_n 2, 1) := by decide +kernel
theorem dL_law_2076 : decode cL_law 2076 = .ok (.invokevirtual 150, 3) := by decide +kernel
theorem dL_law_2079 : decode cL_law 2079 = .ok (.iload 5, 2) := by decide +kernel
theorem dL_law_2081 : decode cL_law 2081 = .ok (.if_icmp .eq 5, 3) := by decide +kernel
theorem dL_law_2086 : decode cL_law 2086 = .ok (.iload 5, 2) := by decide +kernel
theorem dL_law_2088 : decode cL_law 2088 = .ok (.ifCond .ne 16, 3) := by decide +kernel
theorem dL_law_2091 : decode cL_law 2091 = .ok (.aload_n 3, 1) := by decide +kernel
theorem dL_law_2092 : decode cL_law 2092 = .ok (.getfield 13, 3) := by decide +kernel
theorem dL_law_2095 : decode cL_law 2095 = .ok (.iload 6, 2) := by decide +kernel
theorem dL_law_2097 : decode cL_law 2097 = .ok (.i2l, 1) := by decide +kernel
theorem dL_law_2098 : decode cL_law 2098 = .ok (.lcmp, 1) := by decide +kernel
theorem dL_law_2099 : decode cL_law 2099 = .ok (.ifCond .eq 5, 3) := by decide +kernel
theorem dL_law_2104 : decode cL_law 2104 = .ok (.goto 704, 3) := by decide +kernel
theorem dL_law_2107 : decode cL_law 2107 = .ok (.aload_n 1, 1) := by decide +kernel
theorem dL_law_2108 : decode cL_law 2108 = .ok (.aload_n 0, 1) := by decide +kernel
theorem dL_law_2109 : decode cL_law 2109 = .ok (.iload 4, 2) := by decide +kernel
theorem dL_law_2111 : decode cL_law 2111 = .ok (.iconst 1, 1) := by decide +kernel
theorem dL_law_2112 : decode cL_law 2112 = .ok (.iadd, 1) := by decide +kernel
theorem dL_law_2113 : decode cL_law 2113 = .ok (.iaload, 1) := by decide +kernel
theorem dL_law_2114 : decode cL_law 2114 = .ok (.aload_n 0, 1) := by decide +kernel
theorem dL_law_2115 : decode cL_law 2115 = .ok (.iload 4, 2) := by decide +kernel
theorem dL_law_2117 : decode cL_law 2117 = .ok (.iconst 2, 1) := by decide +kernel
theorem dL_law_2118 : decode cL_law 2118 = .ok (.iadd, 1) := by decide +kernel
theorem dL_law_2119 : decode cL_law 2119 = .ok (.iaload, 1) := by decide +kernel
theorem dL_law_2120 : decode cL_law 2120 = .ok (.aload_n 3, 1) := by decide +kernel
theorem dL_law_2121 : decode cL_law 2121 = .ok (.invokestatic 235, 3) := by decide +kernel
theorem dL_law_2124 : decode cL_law 2124 = .ok (.istore 5, 2) := by decide +kernel
theorem dL_law_2126 : decode cL_law 2126 = .ok (.aload_n 2, 1) := by decide +kernel
theorem dL_law_2127 : decode cL_law 2127 = .ok (.aload_n 0, 1) := by decide +kernel
theorem dL_law_2128 : decode cL_law 2128 = .ok (.iload 4, 2) := by decide +kernel
theorem dL_law_2130 : decode cL_law 2130 = .ok (.iconst 1, 1) := by decide +kernel
theorem dL_law_2131 : decode cL_law 2131 = .ok (.iadd, 1) := by decide +kernel
theorem dL_law_2132 : decode cL_law 2132 = .ok (.iaload, 1) := by decide +kernel
theorem dL_law_2133 : decode cL_law 2133 = .ok (.aload_n 0, 1) := by decide +kernel
theorem dL_law_2134 : decode cL_law 2134 = .ok (.iload 4, 2) := by decide +kernel
theorem dL_law_2136 : decode cL_law 2136 = .ok (.iconst 2, 1) := by decide +kernel
theorem dL_law_2137 : decode cL_law 2137 = .ok (.iadd, 1) := by decide +kernel
theorem dL_law_2138 : decode cL_law 2138 = .ok (.iaload, 1) := by decide +kernel
theorem dL_law_2139 : decode cL_law 2139 = .ok (.invokevirtual 237, 3) := by decide +kernel
theorem dL_law_2142 : decode cL_law 2142 = .ok (.istore 6, 2) := by decide +kernel
theorem dL_law_2144 : decode cL_law 2144 = .ok (.aload_n 2, 1) := by decide +kernel
theorem dL_law_2145 : decode cL_law 2145 = .ok (.invokevirtual 150, 3) := by decide +kernel
theorem dL_law_2148 : decode cL_law 2148 = .ok (.iload 5, 2) := by decide +kernel
theorem dL_law_2150 : decode cL_law 2150 = .ok (.if_icmp .eq 5, 3) := by decide +kernel
theorem dL_law_2155 : decode cL_law 2155 = .ok (.iload 5, 2) := by decide +kernel
theorem dL_law_2157 : decode cL_law 2157 = .ok (.ifCond .ne 16, 3) := by decide +kernel
theorem dL_law_2160 : decode cL_law 2160 = .ok (.aload_n 3, 1) := by decide +kernel
theorem dL_law_2161 : decode cL_law 2161 = .ok (.getfield 13, 3) := by decide +kernel
theorem dL_law_2164 : decode cL_law 2164 = .ok (.iload 6, 2) := by decide +kernel
theorem dL_law_2166 : decode cL_law 2166 = .ok (.i2l, 1) := by decide +kernel
theorem dL_law_2167 : decode cL_law 2167 = .ok (.lcmp, 1) := by decide +kernel
theorem dL_law_2168 : decode cL_law 2168 = .ok (.ifCond .eq 5, 3) := by decide +kernel
theorem dL_law_2173 : decode cL_law 2173 = .ok (.goto 635, 3) := by decide +kernel
theorem dL_law_2176 : decode cL_law 2176 = .ok (.aload_n 1, 1) := by decide +kernel
theorem dL_law_2177 : decode cL_law 2177 = .ok (.aload_n 0, 1) := by decide +kernel
theorem dL_law_2178 : decode cL_law 2178 = .ok (.iload 4, 2) := by decide +kernel
theorem dL_law_2180 : decode cL_law 2180 = .ok (.iconst 1, 1) := by decide +kernel
theorem dL_law_2181 : decode cL_law 2181 = .ok (.iadd, 1) := by decide +kernel
theorem dL_law_2182 : decode cL_law 2182 = .ok (.iaload, 1) := by decide +kernel
theorem dL_law_2183 : decode cL_law 2183 = .ok (.aload_n 0, 1) := by decide +kernel
theorem dL_law_2184 : decode cL_law 2184 = .ok (.iload 4, 2) := by decide +kernel
theorem dL_law_2186 : decode cL_law 2186 = .ok (.iconst 2, 1) := by decide +kernel
theorem dL_law_2187 : decode cL_law 2187 = .ok (.iadd, 1) := by decide +kernel
theorem dL_law_2188 : decode cL_law 2188 = .ok (.iaload, 1) := by decide +kernel
theorem dL_law_2189 : decode cL_law 2189 = .ok (.aload_n 3, 1) := by decide +kernel
theorem dL_law_2190 : decode cL_law 2190 = .ok (.invokestatic 238, 3) := by decide +kernel
theorem dL_law_2193 : decode cL_law 2193 = .ok (.istore 5, 2) := by decide +kernel
theorem dL_law_2195 : decode cL_law 2195 = .ok (.aload_n 2, 1) := by decide +kernel
theorem dL_law_2196 : decode cL_law 2196 = .ok (.aload_n 0, 1) := by decide +kernel
theorem dL_law_2197 : decode cL_law 2197 = .ok (.iload 4, 2) := by decide +kernel
theorem dL_law_2199 : decode cL_law 2199 = .ok (.iconst 1, 1) := by decide +kernel
theorem dL_law_2200 : decode cL_law 2200 = .ok (.iadd, 1) := by decide +kernel
theorem dL_law_2201 : decode cL_law 2201 = .ok (.iaload, 1) := by decide +kernel
theorem dL_law_2202 : decode cL_law 2202 = .ok (.aload_n 0, 1) := by decide +kernel
theorem dL_law_2203 : decode cL_law 2203 = .ok (.iload 4, 2) := by decide +kernel
theorem dL_law_2205 : decode cL_law 2205 = .ok (.iconst 2, 1) := by decide +kernel
theorem dL_law_2206 : decode cL_law 2206 = .ok (.iadd, 1) := by decide +kernel
theorem dL_law_2207 : decode cL_law 2207 = .ok (.iaload, 1) := by decide +kernel
theorem dL_law_2208 : decode cL_law 2208 = .ok (.invokevirtual 240, 3) := by decide +kernel
theorem dL_law_2211 : decode cL_law 2211 = .ok (.istore 6, 2) := by decide +kernel
theorem dL_law_2213 : decode cL_law 2213 = .ok (.aload_n 2, 1) := by decide +kernel
theorem dL_law_2214 : decode cL_law 2214 = .ok (.invokevirtual 150, 3) := by decide +kernel
theorem dL_law_2217 : decode cL_law 2217 = .ok (.iload 5, 2) := by decide +kernel
theorem dL_law_2219 : decode cL_law 2219 = .ok (.if_icmp .eq 5, 3) := by decide +kernel
theorem dL_law_2224 : decode cL_law 2224 = .ok (.iload 5, 2) := by decide +kernel
theorem dL_law_2226 : decode cL_law 2226 = .ok (.ifCond .ne 16, 3) := by decide +kernel
theorem dL_law_2229 : decode cL_law 2229 = .ok (.aload_n 3, 1) := by decide +kernel
theorem dL_law_2230 : decode cL_law 2230 = .ok (.getfield 13, 3) := by decide +kernel
theorem dL_law_2233 : decode cL_law 2233 = .ok (.iload 6, 2) := by decide +kernel
theorem dL_law_2235 : decode cL_law 2235 = .ok (.i2l, 1) := by decide +kernel
theorem dL_law_2236 : decode cL_law 2236 = .ok (.lcmp, 1) := by decide +kernel
theorem dL_law_2237 : decode cL_law 2237 = .ok (.ifCond .eq 5, 3) := by decide +kernel
theorem dL_law_2242 : decode cL_law 2242 = .ok (.goto 566, 3) := by decide +kernel
theorem dL_law_2245 : decode cL_law 2245 = .ok (.aload_n 1, 1) := by decide +kernel
theorem dL_law_2246 : decode cL_law 2246 = .ok (.aload_n 0, 1) := by decide +kernel
theorem dL_law_2247 : decode cL_law 2247 = .ok (.iload 4, 2) := by decide +kernel
theorem dL_law_2249 : decode cL_law 2249 = .ok (.iconst 1, 1) := by decide +kernel
theorem dL_law_2250 : decode cL_law 2250 = .ok (.iadd, 1) := by decide +kernel
theorem dL_law_2251 : decode cL_law 2251 = .ok (.iaload, 1) := by decide +kernel
theorem dL_law_2252 : decode cL_law 2252 = .ok (.aload_n 3, 1) := by decide +kernel
theorem dL_law_2253 : decode cL_law 2253 = .ok (.invokestatic 241, 3) := by decide +kernel
theorem dL_law_2256 : decode cL_law 2256 = .ok (.istore 5, 2) := by decide +kernel
theorem dL_law_2258 : decode cL_law 2258 = .ok (.aload_n 2, 1) := by decide +kernel
theorem dL_law_2259 : decode cL_law 2259 = .ok (.aload_n 0, 1) := by decide +kernel
theorem dL_law_2260 : decode cL_law 2260 = .ok (.iload 4, 2) := by decide +kernel
theorem dL_law_2262 : decode cL_law 2262 = .ok (.iconst 1, 1) := by decide +kernel
theorem dL_law_2263 : decode cL_law 2263 = .ok (.iadd, 1) := by decide +kernel
theorem dL_law_2264 : decode cL_law 2264 = .ok (.iaload, 1) := by decide +kernel
theorem dL_law_2265 : decode cL_law 2265 = .ok (.invokevirtual 243, 3) := by decide +kernel
theorem dL_law_2268 : decode cL_law 2268 = .ok (.istore 6, 2) := by decide +kernel
theorem dL_law_2270 : decode cL_law 2270 = .ok (.aload_n 2, 1) := by decide +kernel
theorem dL_law_2271 : decode cL_law 2271 = .ok (.invokevirtual 150, 3) := by decide +kernel
theorem dL_law_2274 : decode cL_law 2274 = .ok (.iload 5, 2) := by decide +kernel
theorem dL_law_2276 : decode cL_law 2276 = .ok (.if_icmp .eq 5, 3) := by decide +kernel
theorem dL_law_2281 : decode cL_law 2281 = .ok (.iload 5, 2) := by decide +kernel
theorem dL_law_2283 : decode cL_law 2283 = .ok (.ifCond .ne 16, 3) := by decide +kernel
theorem dL_law_2286 : decode cL_law 2286 = .ok (.aload_n 3, 1) := by decide +kernel
theorem dL_law_2287 : decode cL_law 2287 = .ok (.getfield 13, 3) := by decide +kernel
theorem dL_law_2290 : decode cL_law 2290 = .ok (.iload 6, 2) := by decide +kernel
theorem dL_law_2292 : decode cL_law 2292 = .ok (.i2l, 1) := by decide +kernel
theorem dL_law_2293 : decode cL_law 2293 = .ok (.lcmp, 1) := by decide +kernel
theorem dL_law_2294 : decode cL_law 2294 = .ok (.ifCond .eq 5, 3) := by decide +kernel
theorem dL_law_2299 : decode cL_law 2299 = .ok (.goto 509, 3) := by decide +kernel
theorem dL_law_2302 : decode cL_law 2302 = .ok (.aload_n 1, 1) := by decide +kernel
theorem dL_law_2303 : decode cL_law 2303 = .ok (.aload_n 0, 1) := by decide +kernel
theorem dL_law_2304 : decode cL_law 2304 = .ok (.iload 4, 2) := by decide +kernel
theorem dL_law_2306 : decode cL_law 2306 = .ok (.iconst 1, 1) := by decide +kernel
theorem dL_law_2307 : decode cL_law 2307 = .ok (.iadd, 1) := by decide +kernel
theorem dL_law_2308 : decode cL_law 2308 = .ok (.iaload, 1) := by decide +kernel
theorem dL_law_2309 : decode cL_law 2309 = .ok (.aload_n 3, 1) := by decide +kernel
theorem dL_law_2310 : decode cL_law 2310 = .ok (.invokestatic 244, 3) := by decide +kernel
theorem dL_law_2313 : decode cL_law 2313 = .ok (.istore 5, 2) := by decide +kernel
theorem dL_law_2315 : decode cL_law 2315 = .ok (.aload_n 2, 1) := by decide +kernel
theorem dL_law_2316 : decode cL_law 2316 = .ok (.aload_n 0, 1) := by decide +kernel
theorem dL_law_2317 : decode cL_law 2317 = .ok (.iload 4, 2) := by decide +kernel
theorem dL_law_2319 : decode cL_law 2319 = .ok (.iconst 1, 1) := by decide +kernel
theorem dL_law_2320 : decode cL_law 2320 = .ok (.iadd, 1) := by decide +kernel
theorem dL_law_2321 : decode cL_law 2321 = .ok (.iaload, 1) := by decide +kernel
theorem dL_law_2322 : decode cL_law 2322 = .ok (.invokevirtual 246, 3) := by decide +kernel
theorem dL_law_2325 : decode cL_law 2325 = .ok (.astore 6, 2) := by decide +kernel
theorem dL_law_2327 : decode cL_law 2327 = .ok (.aload_n 2, 1) := by decide +kernel
theorem dL_law_2328 : decode cL_law 2328 = .ok (.invokevirtual 150, 3) := by decide +kernel
theorem dL_law_2331 : decode cL_law 2331 = .ok (.iload 5, 2) := by decide +kernel
theorem dL_law_2333 : decode cL_law 2333 = .ok (.if_icmp .eq 5, 3) := by decide +kernel
theorem dL_law_2338 : decode cL_law 2338 = .ok (.iload 5, 2) := by decide +kernel
theorem dL_law_2340 : decode cL_law 2340 = .ok (.ifCond .ne 17, 3) := by decide +kernel
theorem dL_law_2343 : decode cL_law 2343 = .ok (.aload_n 3, 1) := by decide +kernel
theorem dL_law_2344 : decode cL_law 2344 = .ok (.getfield 117, 3) := by decide +kernel
theorem dL_law_2347 : decode cL_law 2347 = .ok (.aload 6, 2) := by decide +kernel
theorem dL_law_2349 : decode cL_law 2349 = .ok (.invokevirtual 247, 3) := by decide +kernel
theorem dL_law_2352 : decode cL_law 2352 = .ok (.ifCond .ne 5, 3) := by decide +kernel
theorem dL_law_2357 : decode cL_law 2357 = .ok (.goto 451, 3) := by decide +kernel
theorem dL_law_2360 : decode cL_law 2360 = .ok (.aload_n 1, 1) := by decide +kernel
theorem dL_law_2361 : decode cL_law 2361 = .ok (.aload_n 0, 1) := by decide +kernel
theorem dL_law_2362 : decode cL_law 2362 = .ok (.iload 4, 2) := by decide +kernel
theorem dL_law_2364 : decode cL_law 2364 = .ok (.iconst 1, 1) := by decide +kernel
theorem dL_law_2365 : decode cL_law 2365 = .ok (.iadd, 1) := by decide +kernel
theorem dL_law_2366 : decode cL_law 2366 = .ok (.iaload, 1) := by decide +kernel
theorem dL_law_2367 : decode cL_law 2367 = .ok (.aload_n 3, 1) := by decide +kernel
theorem dL_law_2368 : decode cL_law 2368 = .ok (.invokestatic 253, 3) := by decide +kernel
theorem dL_law_2371 : decode cL_law 2371 = .ok (.istore 5, 2) := by decide +kernel
theorem dL_law_2373 : decode cL_law 2373 = .ok (.aload_n 2, 1) := by decide +kernel
theorem dL_law_2374 : decode cL_law 2374 = .ok (.aload_n 0, 1) := by decide +kernel
theorem dL_law_2375 : decode cL_law 2375 = .ok (.iload 4, 2) := by decide +kernel
theorem dL_law_2377 : decode cL_law 2377 = .ok (.iconst 1, 1) := by decide +kernel
theorem dL_law_2378 : decode cL_law 2378 = .ok (.iadd, 1) := by decide +kernel
theorem dL_law_2379 : decode cL_law 2379 = .ok (.iaload, 1) := by decide +kernel
theorem dL_law_2380 : decode cL_law 2380 = .ok (.invokevirtual 255, 3) := by decide +kernel
theorem dL_law_2383 : decode cL_law 2383 = .ok (.astore 6, 2) := by decide +kernel
theorem dL_law_2385 : decode cL_law 2385 = .ok (.aload_n 2, 1) := by decide +kernel
theorem dL_law_2386 : decode cL_law 2386 = .ok (.invokevirtual 150, 3) := by decide +kernel
theorem dL_law_2389 : decode cL_law 2389 = .ok (.iload 5, 2) := by decide +kernel
theorem dL_law_2391 : decode cL_law 2391 = .ok (.if_icmp .eq 5, 3) := by decide +kernel
theorem dL_law_2396 : decode cL_law 2396 = .ok (.iload 5, 2) := by decide +kernel
theorem dL_law_2398 : decode cL_law 2398 = .ok (.ifCond .ne 17, 3) := by decide +kernel
theorem dL_law_2401 : decode cL_law 2401 = .ok (.aload_n 3, 1) := by decide +kernel
theorem dL_law_2402 : decode cL_law 2402 = .ok (.getfield 117, 3) := by decide +kernel
theorem dL_law_2405 : decode cL_law 2405 = .ok (.aload 6, 2) := by decide +kernel
theorem dL_law_2407 : decode cL_law 2407 = .ok (.invokevirtual 247, 3) := by decide +kernel
theorem dL_law_2410 : decode cL_law 2410 = .ok (.ifCond .ne 5, 3) := by decide +kernel
theorem dL_law_2415 : decode cL_law 2415 = .ok (.goto 393, 3) := by decide +kernel
theorem dL_law_2418 : decode cL_law 2418 = .ok (.aload_n 1, 1) := by decide +kernel
theorem dL_law_2419 : decode cL_law 2419 = .ok (.aload_n 0, 1) := by decide +kernel
theorem dL_law_2420 : decode cL_law 2420 = .ok (.iload 4, 2) := by decide +kernel
theorem dL_law_2422 : decode cL_law 2422 = .ok (.iconst 1, 1) := by decide +kernel
theorem dL_law_2423 : decode cL_law 2423 = .ok (.iadd, 1) := by decide +kernel
theorem dL_law_2424 : decode cL_law 2424 = .ok (.iaload, 1) := by decide +kernel
theorem dL_law_2425 : decode cL_law 2425 = .ok (.aload_n 3, 1) := by decide +kernel
theorem dL_law_2426 : decode cL_law 2426 = .ok (.invokestatic 256, 3) := by decide +kernel
theorem dL_law_2429 : decode cL_law 2429 = .ok (.istore 5, 2) := by decide +kernel
theorem dL_law_2431 : decode cL_law 2431 = .ok (.aload_n 2, 1) := by decide +kernel
theorem dL_law_2432 : decode cL_law 2432 = .ok (.aload_n 0, 1) := by decide +kernel
theorem dL_law_2433 : decode cL_law 2433 = .ok (.iload 4, 2) := by decide +kernel
theorem dL_law_2435 : decode cL_law 2435 = .ok (.iconst 1, 1) := by decide +kernel
theorem dL_law_2436 : decode cL_law 2436 = .ok (.iadd, 1) := by decide +kernel
theorem dL_law_2437 : decode cL_law 2437 = .ok (.iaload, 1) := by decide +kernel
theorem dL_law_2438 : decode cL_law 2438 = .ok (.invokevirtual 258, 3) := by decide +kernel
theorem dL_law_2441 : decode cL_law 2441 = .ok (.astore 6, 2) := by decide +kernel
theorem dL_law_2443 : decode cL_law 2443 = .ok (.aload_n 2, 1) := by decide +kernel
theorem dL_law_2444 : decode cL_law 2444 = .ok (.invokevirtual 150, 3) := by decide +kernel
theorem dL_law_2447 : decode cL_law 2447 = .ok (.iload 5, 2) := by decide +kernel
theorem dL_law_2449 : decode cL_law 2449 = .ok (.if_icmp .eq 5, 3) := by decide +kernel
theorem dL_law_2454 : decode cL_law 2454 = .ok (.iload 5, 2) := by decide +kernel
theorem dL_law_2456 : decode cL_law 2456 = .ok (.ifCond .ne 17, 3) := by decide +kernel
theorem dL_law_2459 : decode cL_law 2459 = .ok (.aload_n 3, 1) := by decide +kernel
theorem dL_law_2460 : decode cL_law 2460 = .ok (.getfield 117, 3) := by decide +kernel
theorem dL_law_2463 : decode cL_law 2463 = .ok (.aload 6, 2) := by decide +kernel
theorem dL_law_2465 : decode cL_law 2465 = .ok (.invokevirtual 247, 3) := by decide +kernel
theorem dL_law_2468 : decode cL_law 2468 = .ok (.ifCond .ne 5, 3) := by decide +kernel
theorem dL_law_2473 : decode cL_law 2473 = .ok (.goto 335, 3) := by decide +kernel
set_option maxRecDepth 20000 in
theorem lc_lay {X : zX} (C : z_C X cL_law RL 7 room_1) (h_st : (z_l X).stackTraces = false) {b L : Nat} {xs : Nat → Int32} (hX : va_X b L xs (z_s X) (z_s X).heap) (hbl : b < (z_s X).heap.size) (hbA : ¬ z_F X b) {jx : Nat} {a1 a2 a3 a4 : Int32} (hs1 : vp_in (nI (5 * jx) + 1) L ∧ xs (nI (5 * jx) + 1).toNatClampNeg = a1) (hs2 : vp_in (nI (5 * jx) + 2) L ∧ xs (nI (5 * jx) + 2).toNatClampNeg = a2) (hs3 : vp_in (nI (5 * jx) + 3) L ∧ xs (nI (5 * jx) + 3).toNatClampNeg = a3) (hs4 : vp_in (nI (5 * jx) + 4) L ∧ xs (nI (5 * jx) + 4).toNatClampNeg = a4) {u : sS} {x pa sp ln rf sb m pn td ou : Nat} {th : Int32} {on : Int64} {Mw : zM} (hI : s_LX (z_G X) x pa sp ln rf sb m pn td ou u u th on Mw) (hok : s_ok jx u) (hj : jx < 64) {kq nq : Nat} (hkq : kq + 4000 ≤ 600128) (hnq : nq + 60000 ≤ 7301098) (kk : ∀ v th on Mz, s_LX (z_G X) x pa sp ln rf sb m pn td ou v v th on Mz → s_ok (jx + 1) v → z_W X Mz (kq + 4000) (nq + 60000) 27 [(4, .int (nI (5 * (jx + 1)))), (0, .ref b), (1, .ref x), (2, .ref m), (3, .ref ou)] []) : z_W X Mw kq nq 1774 [(4, .int (nI (5 * jx))), (0, .ref b), (1, .ref x), (2, .ref m), (3, .ref ou)] [] := by
  refine z_aload_n C dL_law_1774 rfl 2 rfl ?_
  refine z_aload_n C dL_law_1775 rfl 1 rfl ?_
  refine z_iload C dL_law_1776 0 rfl ?_
  refine z_iconst C (v := 1) dL_law_1778 (by decide) ?_
  refine z_iadd C dL_law_1779 ?_
  refine z_sld C hX hbl hbA hs1.1 hs1.2 dL_law_1780 ?_
  refine z_aload_n C dL_law_1781 rfl 1 rfl ?_
  refine z_iload C dL_law_1782 0 rfl ?_
  refine z_iconst C (v := 2) dL_law_1784 (by decide) ?_
  refine z_iadd C dL_law_1785 ?_
  refine z_sld C hX hbl hbA hs2.1 hs2.2 dL_law_1786 ?_
  refine z_aload_n C dL_law_1787 rfl 4 rfl ?_
  refine z_callHi (rest := []) (k' := kq + 8) (n' := nq + 48) C (s_LX_P hI (fun hC9 hd9 ho9 => w_lay (z_l X) h_st hC9 hd9 ho9 hok a1 a2)) (ch_lay C ⟨Nat.le_of_ble_eq_true rfl, Nat.le_of_ble_eq_true rfl⟩) rfl rfl (Nat.le_of_ble_eq_true rfl) rfl rfl (by show _ ≤ 600128; omega) (by show _ ≤ 7301098; omega) dL_law_1788 (fun xk M1 hq => ?_)
  obtain ⟨hk1, on1, hI1, ho1⟩ := hq
  refine z_istore (lv' := [(5, .int xk), (4, .int (nI (5 * jx))), (0, .ref b), (1, .ref x), (2, .ref m), (3, .ref ou)]) C dL_law_1791 (by decide) rfl ?_
  refine z_aload_n C dL_law_1793 rfl 4 rfl ?_
  refine z_aload_n C dL_law_1794 rfl 2 rfl ?_
  refine z_iload C dL_law_1795 1 rfl ?_
  refine z_iconst C (v := 1) dL_law_1797 (by decide) ?_
  refine z_iadd C dL_law_1798 ?_
  refine z_sld C hX hbl hbA hs1.1 hs1.2 dL_law_1799 ?_
  refine z_aload_n C dL_law_1800 rfl 2 rfl ?_
  refine z_iload C dL_law_1801 1 rfl ?_
  refine z_iconst C (v := 2) dL_law_1803 (by decide) ?_
  refine z_iadd C dL_law_1804 ?_
  refine z_sld C hX hbl hbA hs2.1 hs2.2 dL_law_1805 ?_
  obtain ⟨tp9, hm9⟩ := s_LX_m hI1
  refine z_callVi (rest := []) (k' := kq + 8) (n' := nq + 48) C (s_LX_R hI1 (fun hR9 => a_X5_lay (z_l X) hR9 hok (by omega) a1 a2)) (cs_L_222 C ⟨Nat.le_of_ble_eq_true rfl, Nat.le_of_ble_eq_true rfl⟩) hm9 rfl rfl rfl rfl (Nat.le_of_ble_eq_true rfl) rfl rfl (by show _ ≤ 600128; omega) (by show _ ≤ 7301098; omega) dL_law_1806 (fun xr M2 hq => ?_)
  obtain ⟨hI2, hr2⟩ := hq
  obtain ⟨tp8, hm8⟩ := s_LX_m hI2
  obtain ⟨os8, hou8⟩ := s_LX_ou hI2
  refine z_istore (lv' := [(6, .int xr), (5, .int xk), (4, .int (nI (5 * jx))), (0, .ref b), (1, .ref x), (2, .ref m), (3, .ref ou)]) C dL_law_1809 (by decide) rfl ?_
  refine z_aload_n C dL_law_1811 rfl 5 rfl ?_
  refine z_callVi (rest := []) (k' := kq + 8) (n' := nq + 48) C (c_X5_thrown (z_l X) (z_G X) hm8) (cs_L_150 C ⟨Nat.le_of_ble_eq_true rfl, Nat.le_of_ble_eq_true rfl⟩) hm8 rfl rfl rfl rfl (Nat.le_of_ble_eq_true rfl) rfl rfl (by show _ ≤ 600128; omega) (by show _ ≤ 7301098; omega) dL_law_1812 (fun x3 M3 hq => ?_)
  obtain ⟨e3, rfl⟩ := hq
  rw [e3]
  refine z_iload C dL_law_1815 1 rfl ?_
  refine z_icmp_eq C (tgt := 1822) dL_law_1817 (by decide) (fun _ => ?_) (fun c1817 => absurd hk1.symm c1817)
  refine z_iload C dL_law_1822 1 rfl ?_
  refine z_if_ne C (tgt := 1840) dL_law_1824 (by decide) (fun c1824 => ?_) (fun c1824 => ?_)
  · refine z_goto C (tgt := 2808) dL_law_1840 (by decide) ?_
    refine z_iinc (v := nI (5 * (jx + 1))) (lv' := [(4, .int (nI (5 * (jx + 1)))), (6, .int xr), (5, .int xk), (0, .ref b), (1, .ref x), (2, .ref m), (3, .ref ou)]) C dL_law_2808 2 rfl (j_inc5 jx) (by decide) rfl ?_
    refine z_goto C (tgt := 27) dL_law_2811 (by decide) ?_
    refine z_fewer [0, 3, 4, 5, 6] rfl ?_
    refine z_widen (k' := kq + 4000) (n' := nq + 60000) (by omega) (by omega) ?_
    exact kk _ _ _ _ hI2 (so_lay hok)
  · refine z_aload_n C dL_law_1827 rfl 6 rfl ?_
    refine gf_L_13 C hou8 dL_law_1828 ?_
    refine z_iload C dL_law_1831 0 rfl ?_
    refine z_i2l C dL_law_1833 ?_
    refine z_lcmp C dL_law_1834 ?_
    refine z_if_eq C (tgt := 1840) dL_law_1835 (by decide) (fun _ => ?_) (fun c1835 => absurd (by rw [ho1 (hk1.symm.trans c1824), hr2 (hk1.symm.trans c1824)]; exact lg_cmp_rf _) c1835)
    refine z_goto C (tgt := 2808) dL_law_1840 (by decide) ?_
    refine z_iinc (v := nI (5 * (jx + 1))) (lv' := [(4, .int (nI (5 * (jx + 1)))), (6, .int xr), (5, .int xk), (0, .ref b), (1, .ref x), (2, .ref m), (3, .ref ou)]) C dL_law_2808 2 rfl (j_inc5 jx) (by decide) rfl ?_
    refine z_goto C (tgt := 27) dL_law_2811 (by decide) ?_
    refine z_fewer [0, 3, 4, 5, 6] rfl ?_
    refine z_widen (k' := kq + 4000) (n' := nq + 60000) (by omega) (by omega) ?_
    exact kk _ _ _ _ hI2 (so_lay hok)
set_option maxRecDepth 20000 in
theorem lc_reach {X : zX} (C : z_C X cL_law RL 7 room_1) (h_st : (z_l X).stackTraces = false) {b L : Nat} {xs : Nat → Int32} (hX : va_X b L xs (z_s X) (z_s X).heap) (hbl : b < (z_s X).heap.size) (hbA : ¬ z_F X b) {jx : Nat} {a1 a2 a3 a4 : Int32} (hs1 : vp_in (nI (5 * jx) + 1) L ∧ xs (nI (5 * jx) + 1).toNatClampNeg = a1) (hs2 : vp_in (nI (5 * jx) + 2) L ∧ xs (nI (5 * jx) + 2).toNatClampNeg = a2) (hs3 : vp_in (nI (5 * jx) + 3) L ∧ xs (nI (5 * jx) + 3).toNatClampNeg = a3) (hs4 : vp_in (nI (5 * jx) + 4) L ∧ xs (nI (5 * jx) + 4).toNatClampNeg = a4) {u : sS} {x pa sp ln rf sb m pn td ou : Nat} {th : Int32} {on : Int64} {Mw : zM} (hI : s_LX (z_G X) x pa sp ln rf sb m pn td ou u u th on Mw) (hok : s_ok jx u) (hj : jx < 64) {kq nq : Nat} (hkq : kq + 4000 ≤ 600128) (hnq : nq + 60000 ≤ 7301098) (kk : ∀ v th on Mz, s_LX (z_G X) x pa sp ln rf sb m pn td ou v v th on Mz → s_ok (jx + 1) v → z_W X Mz (kq + 4000) (nq + 60000) 27 [(4, .int (nI (5 * (jx + 1)))), (0, .ref b), (1, .ref x), (2, .ref m), (3, .ref ou)] []) : z_W X Mw kq nq 1843 [(4, .int (nI (5 * jx))), (0, .ref b), (1, .ref x), (2, .ref m), (3, .ref ou)] [] := by
  refine z_aload_n C dL_law_1843 rfl 2 rfl ?_
  refine z_aload_n C dL_law_1844 rfl 1 rfl ?_
  refine z_iload C dL_law_1845 0 rfl ?_
  refine z_iconst C (v := 1) dL_law_1847 (by decide) ?_
  refine z_iadd C dL_law_1848 ?_
  refine z_sld C hX hbl hbA hs1.1 hs1.2 dL_law_1849 ?_
  refine z_aload_n C dL_law_1850 rfl 1 rfl ?_
  refine z_iload C dL_law_1851 0 rfl ?_
  refine z_iconst C (v := 2) dL_law_1853 (by decide) ?_
  refine z_iadd C dL_law_1854 ?_
  refine z_sld C hX hbl hbA hs2.1 hs2.2 dL_law_1855 ?_
  refine z_aload_n C dL_law_1856 rfl 1 rfl ?_
  refine z_iload C dL_law_1857 0 rfl ?_
  refine z_iconst C (v := 3) dL_law_1859 (by decide) ?_
  refine z_iadd C dL_law_1860 ?_
  refine z_sld C hX hbl hbA hs3.1 hs3.2 dL_law_1861 ?_
  refine z_aload_n C dL_law_1862 rfl 4 rfl ?_
  refine z_callHi (rest := []) (k' := kq + 8) (n' := nq + 48) C (s_LX_P hI (fun hC9 hd9 ho9 => w_reach (z_l X) h_st hC9 hd9 ho9 hok a1 a2 a3)) (ch_reach C ⟨Nat.le_of_ble_eq_true rfl, Nat.le_of_ble_eq_true rfl⟩) rfl rfl (Nat.le_of_ble_eq_true rfl) rfl rfl (by show _ ≤ 600128; omega) (by show _ ≤ 7301098; omega) dL_law_1863 (fun xk M1 hq => ?_)
  obtain ⟨hk1, on1, hI1, ho1⟩ := hq
  refine z_istore (lv' := [(5, .int xk), (4, .int (nI (5 * jx))), (0, .ref b), (1, .ref x), (2, .ref m), (3, .ref ou)]) C dL_law_1866 (by decide) rfl ?_
  refine z_aload_n C dL_law_1868 rfl 4 rfl ?_
  refine z_aload_n C dL_law_1869 rfl 2 rfl ?_
  refine z_iload C dL_law_1870 1 rfl ?_
  refine z_iconst C (v := 1) dL_law_1872 (by decide) ?_
  refine z_iadd C dL_law_1873 ?_
  refine z_sld C hX hbl hbA hs1.1 hs1.2 dL_law_1874 ?_
  refine z_aload_n C dL_law_1875 rfl 2 rfl ?_
  refine z_iload C dL_law_1876 1 rfl ?_
  refine z_iconst C (v := 2) dL_law_1878 (by decide) ?_
  refine z_iadd C dL_law_1879 ?_
  refine z_sld C hX hbl hbA hs2.1 hs2.2 dL_law_1880 ?_
  refine z_aload_n C dL_law_1881 rfl 2 rfl ?_
  refine z_iload C dL_law_1882 1 rfl ?_
  refine z_iconst C (v := 3) dL_law_1884 (by decide) ?_
  refine z_iadd C dL_law_1885 ?_
  refine z_sld C hX hbl hbA hs3.1 hs3.2 dL_law_1886 ?_
  obtain ⟨tp9, hm9⟩ := s_LX_m hI1
  refine z_callVi (rest := []) (k' := kq + 8) (n' := nq + 48) C (s_LX_R hI1 (fun hR9 => a_X5_reach (z_l X) hR9 hok (by omega) a1 a2 a3)) (cs_L_225 C ⟨Nat.le_of_ble_eq_true rfl, Nat.le_of_ble_eq_true rfl⟩) hm9 rfl rfl rfl rfl (Nat.le_of_ble_eq_true rfl) rfl rfl (by show _ ≤ 600128; omega) (by show _ ≤ 7301098; omega) dL_law_1887 (fun xr M2 hq => ?_)
  obtain ⟨hI2, hr2⟩ := hq
  obtain ⟨tp8, hm8⟩ := s_LX_m hI2
  obtain ⟨os8, hou8⟩ := s_LX_ou hI2
  refine z_istore (lv' := [(6, .int xr), (5, .int xk), (4, .int (nI (5 * jx))), (0, .ref b), (1, .ref x), (2, .ref m), (3, .ref ou)]) C dL_law_1890 (by decide) rfl ?_
  refine z_aload_n C dL_law_1892 rfl 5 rfl ?_
  refine z_callVi (rest := []) (k' := kq + 8) (n' := nq + 48) C (c_X5_thrown (z_l X) (z_G X) hm8) (cs_L_150 C ⟨Nat.le_of_ble_eq_true rfl, Nat.le_of_ble_eq_true rfl⟩) hm8 rfl rfl rfl rfl (Nat.le_of_ble_eq_true rfl) rfl rfl (by show _ ≤ 600128; omega) (by show _ ≤ 7301098; omega) dL_law_1893 (fun x3 M3 hq => ?_)
  obtain ⟨e3, rfl⟩ := hq
  rw [e3]
  refine z_iload C dL_law_1896 1 rfl ?_
  refine z_icmp_eq C (tgt := 1903) dL_law_1898 (by decide) (fun _ => ?_) (fun c1898 => absurd hk1.symm c1898)
  refine z_iload C dL_law_1903 1 rfl ?_
  refine z_if_ne C (tgt := 1921) dL_law_1905 (by decide) (fun c1905 => ?_) (fun c1905 => ?_)
  · refine z_goto C (tgt := 2808) dL_law_1921 (by decide) ?_
    refine z_iinc (v := nI (5 * (jx + 1))) (lv' := [(4, .int (nI (5 * (jx + 1)))), (6, .int xr), (5, .int xk), (0, .ref b), (1, .ref x), (2, .ref m), (3, .ref ou)]) C dL_law_2808 2 rfl (j_inc5 jx) (by decide) rfl ?_
    refine z_goto C (tgt := 27) dL_law_2811 (by decide) ?_
    refine z_fewer [0, 3, 4, 5, 6] rfl ?_
    refine z_widen (k' := kq + 4000) (n' := nq + 60000) (by omega) (by omega) ?_
    exact kk _ _ _ _ hI2 (so_reach hok)
  · refine z_aload_n C dL_law_1908 rfl 6 rfl ?_
    refine gf_L_13 C hou8 dL_law_1909 ?_
    refine z_iload C dL_law_1912 0 rfl ?_
    refine z_i2l C dL_law_1914 ?_
    refine z_lcmp C dL_law_1915 ?_
    refine z_if_eq C (tgt := 1921) dL_law_1916 (by decide) (fun _ => ?_) (fun c1916 => absurd (by rw [ho1 (hk1.symm.trans c1905), hr2 (hk1.symm.trans c1905)]; exact lg_cmp_rf _) c1916)
    refine z_goto C (tgt := 2808) dL_law_1921 (by decide) ?_
    refine z_iinc (v := nI (5 * (jx + 1))) (lv' := [(4, .int (nI (5 * (jx + 1)))), (6, .int xr), (5, .int xk), (0, .ref b), (1, .ref x), (2, .ref m), (3, .ref ou)]) C dL_law_2808 2 rfl (j_inc5 jx) (by decide) rfl ?_
    refine z_goto C (tgt := 27) dL_law_2811 (by decide) ?_
    refine z_fewer [0, 3, 4, 5, 6] rfl ?_
    refine z_widen (k' := kq + 4000) (n' := nq + 60000) (by omega) (by omega) ?_
    exact kk _ _ _ _ hI2 (so_reach hok)
set_option maxRecDepth 20000 in
theorem lc_get {X : zX} (C : z_C X cL_law RL 7 room_1) (h_st : (z_l X).stackTraces = false) {b L : Nat} {xs : Nat → Int32} (hX : va_X b L xs (z_s X) (z_s X).heap) (hbl : b < (z_s X).heap.size) (hbA : ¬ z_F X b) {jx : Nat} {a1 a2 a3 a4 : Int32} (hs1 : vp_in (nI (5 * jx) + 1) L ∧ xs (nI (5 * jx) + 1).toNatClampNeg = a1) (hs2 : vp_in (nI (5 * jx) + 2) L ∧ xs (nI (5 * jx) + 2).toNatClampNeg = a2) (hs3 : vp_in (nI (5 * jx) + 3) L ∧ xs (nI (5 * jx) + 3).toNatClampNeg = a3) (hs4 : vp_in (nI (5 * jx) + 4) L ∧ xs (nI (5 * jx) + 4).toNatClampNeg = a4) {u : sS} {x pa sp ln rf sb m pn td ou : Nat} {th : Int32} {on : Int64} {Mw : zM} (hI : s_LX (z_G X) x pa sp ln rf sb m pn td ou u u th on Mw) (hok : s_ok jx u) (hj : jx < 64) {kq nq : Nat} (hkq : kq + 4000 ≤ 600128) (hnq : nq + 60000 ≤ 7301098) (kk : ∀ v th on Mz, s_LX (z_G X) x pa sp ln rf sb m pn td ou v v th on Mz → s_ok (jx + 1) v → z_W X Mz (kq + 4000) (nq + 60000) 27 [(4, .int (nI (5 * (jx + 1)))), (0, .ref b), (1, .ref x), (2, .ref m), (3, .ref ou)] []) : z_W X Mw kq nq 1924 [(4, .int (nI (5 * jx))), (0, .ref b), (1, .ref x), (2, .ref m), (3, .ref ou)] [] := by
  refine z_aload_n C dL_law_1924 rfl 2 rfl ?_
  refine z_aload_n C dL_law_1925 rfl 1 rfl ?_
  refine z_iload C dL_law_1926 0 rfl ?_
  refine z_iconst C (v := 1) dL_law_1928 (by decide) ?_
  refine z_iadd C dL_law_1929 ?_
  refine z_sld C hX hbl hbA hs1.1 hs1.2 dL_law_1930 ?_
  refine z_aload_n C dL_law_1931 rfl 4 rfl ?_
  refine z_callHi (rest := []) (k' := kq + 8) (n' := nq + 48) C (s_LX_P hI (fun hC9 hd9 ho9 => w_get (z_l X) h_st hC9 hd9 ho9 hok a1)) (ch_get C ⟨Nat.le_of_ble_eq_true rfl, Nat.le_of_ble_eq_true rfl⟩) rfl rfl (Nat.le_of_ble_eq_true rfl) rfl rfl (by show _ ≤ 600128; omega) (by show _ ≤ 7301098; omega) dL_law_1932 (fun xk M1 hq => ?_)
  obtain ⟨hk1, on1, hI1, ho1⟩ := hq
  refine z_istore (lv' := [(5, .int xk), (4, .int (nI (5 * jx))), (0, .ref b), (1, .ref x), (2, .ref m), (3, .ref ou)]) C dL_law_1935 (by decide) rfl ?_
  refine z_aload_n C dL_law_1937 rfl 4 rfl ?_
  refine z_aload_n C dL_law_1938 rfl 2 rfl ?_
  refine z_iload C dL_law_1939 1 rfl ?_
  refine z_iconst C (v := 1) dL_law_1941 (by decide) ?_
  refine z_iadd C dL_law_1942 ?_
  refine z_sld C hX hbl hbA hs1.1 hs1.2 dL_law_1943 ?_
  obtain ⟨tp9, hm9⟩ := s_LX_m hI1
  refine z_callVi (rest := []) (k' := kq + 8) (n' := nq + 48) C (s_LX_R hI1 (fun hR9 => a_X5_get (z_l X) hR9 hok (by omega) a1)) (cs_L_228 C ⟨Nat.le_of_ble_eq_true rfl, Nat.le_of_ble_eq_true rfl⟩) hm9 rfl rfl rfl rfl (Nat.le_of_ble_eq_true rfl) rfl rfl (by show _ ≤ 600128; omega) (by show _ ≤ 7301098; omega) dL_law_1944 (fun xr M2 hq => ?_)
  obtain ⟨hI2, hr2⟩ := hq
  obtain ⟨tp8, hm8⟩ := s_LX_m hI2
  obtain ⟨os8, hou8⟩ := s_LX_ou hI2
  refine z_istore (lv' := [(6, .int xr), (5, .int xk), (4, .int (nI (5 * jx))), (0, .ref b), (1, .ref x), (2, .ref m), (3, .ref ou)]) C dL_law_1947 (by decide) rfl ?_
  refine z_aload_n C dL_law_1949 rfl 5 rfl ?_
  refine z_callVi (rest := []) (k' := kq + 8) (n' := nq + 48) C (c_X5_thrown (z_l X) (z_G X) hm8) (cs_L_150 C ⟨Nat.le_of_ble_eq_true rfl, Nat.le_of_ble_eq_true rfl⟩) hm8 rfl rfl rfl rfl (Nat.le_of_ble_eq_true rfl) rfl rfl (by show _ ≤ 600128; omega) (by show _ ≤ 7301098; omega) dL_law_1950 (fun x3 M3 hq => ?_)
  obtain ⟨e3, rfl⟩ := hq
  rw [e3]
  refine z_iload C dL_law_1953 1 rfl ?_
  refine z_icmp_eq C (tgt := 1960) dL_law_1955 (by decide) (fun _ => ?_) (fun c1955 => absurd hk1.symm c1955)
  refine z_iload C dL_law_1960 1 rfl ?_
  refine z_if_ne C (tgt := 1978) dL_law_1962 (by decide) (fun c1962 => ?_) (fun c1962 => ?_)
  · refine z_goto C (tgt := 2808) dL_law_1978 (by decide) ?_
    refine z_iinc (v := nI (5 * (jx + 1))) (lv' := [(4, .int (nI (5 * (jx + 1)))), (6, .int xr), (5, .int xk), (0, .ref b), (1, .ref x), (2, .ref m), (3, .ref ou)]) C dL_law_2808 2 rfl (j_inc5 jx) (by decide) rfl ?_
    refine z_goto C (tgt := 27) dL_law_2811 (by decide) ?_
    refine z_fewer [0, 3, 4, 5, 6] rfl ?_
    refine z_widen (k' := kq + 4000) (n' := nq + 60000) (by omega) (by omega) ?_
    exact kk _ _ _ _ hI2 (so_get hok)
  · refine z_aload_n C dL_law_1965 rfl 6 rfl ?_
    refine gf_L_13 C hou8 dL_law_1966 ?_
    refine z_iload C dL_law_1969 0 rfl ?_
    refine z_i2l C dL_law_1971 ?_
    refine z_lcmp C dL_law_1972 ?_
    refine z_if_eq C (tgt := 1978) dL_law_1973 (by decide) (fun _ => ?_) (fun c1973 => absurd (by rw [ho1 (hk1.symm.trans c1962), hr2 (hk1.symm.trans c1962)]; exact lg_cmp_rf _) c1973)
    refine z_goto C (tgt := 2808) dL_law_1978 (by decide) ?_
    refine z_iinc (v := nI (5 * (jx + 1))) (lv' := [(4, .int (nI (5 * (jx + 1)))), (6, .int xr), (5, .int xk), (0, .ref b), (1, .ref x), (2, .ref m), (3, .ref ou)]) C dL_law_2808 2 rfl (j_inc5 jx) (by decide) rfl ?_
    refine z_goto C (tgt := 27) dL_law_2811 (by decide) ?_
    refine z_fewer [0, 3, 4, 5, 6] rfl ?_
    refine z_widen (k' := kq + 4000) (n' := nq + 60000) (by omega) (by omega) ?_
    exact kk _ _ _ _ hI2 (so_get hok)
set_option maxRecDepth 20000 in
theorem lc_drain {X : zX} (C : z_C X cL_law RL 7 room_1) (h_st : (z_l X).stackTraces = false) {b L : Nat} {xs : Nat → Int32} (hX : va_X b L xs (z_s X) (z_s X).heap) (hbl : b < (z_s X).heap.size) (hbA : ¬ z_F X b) {jx : Nat} {a1 a2 a3 a4 : Int32} (hs1 : vp_in (nI (5 * jx) + 1) L ∧ xs (nI (5 * jx) + 1).toNatClampNeg = a1) (hs2 : vp_in (nI (5 * jx) + 2) L ∧ xs (nI (5 * jx) + 2).toNatClampNeg = a2) (hs3 : vp_in (nI (5 * jx) + 3) L ∧ xs (nI (5 * jx) + 3).toNatClampNeg = a3) (hs4 : vp_in (nI (5 * jx) + 4) L ∧ xs (nI (5 * jx) + 4).toNatClampNeg = a4) {u : sS} {x pa sp ln rf sb m pn td ou : Nat} {th : Int32} {on : Int64} {Mw : zM} (hI : s_LX (z_G X) x pa sp ln rf sb m pn td ou u u th on Mw) (hok : s_ok jx u) (hj : jx < 64) {kq nq : Nat} (hkq : kq + 4000 ≤ 600128) (hnq : nq + 60000 ≤ 7301098) (kk : ∀ v th on Mz, s_LX (z_G X) x pa sp ln rf sb m pn td ou v v th on Mz → s_ok (jx + 1) v → z_W X Mz (kq + 4000) (nq + 60000) 27 [(4, .int (nI (5 * (jx + 1)))), (0, .ref b), (1, .ref x), (2, .ref m), (3, .ref ou)] []) : z_W X Mw kq nq 1981 [(4, .int (nI (5 * jx))), (0, .ref b), (1, .ref x), (2, .ref m), (3, .ref ou)] [] := by
  refine z_aload_n C dL_law_1981 rfl 2 rfl ?_
  refine z_aload_n C dL_law_1982 rfl 1 rfl ?_
  refine z_iload C dL_law_1983 0 rfl ?_
  refine z_iconst C (v := 1) dL_law_1985 (by decide) ?_
  refine z_iadd C dL_law_1986 ?_
  refine z_sld C hX hbl hbA hs1.1 hs1.2 dL_law_1987 ?_
  refine z_aload_n C dL_law_1988 rfl 1 rfl ?_
  refine z_iload C dL_law_1989 0 rfl ?_
  refine z_iconst C (v := 2) dL_law_1991 (by decide) ?_
  refine z_iadd C dL_law_1992 ?_
  refine z_sld C hX hbl hbA hs2.1 hs2.2 dL_law_1993 ?_
  refine z_aload_n C dL_law_1994 rfl 4 rfl ?_
  refine z_callHi (rest := []) (k' := kq + 8) (n' := nq + 48) C (s_LX_P hI (fun hC9 hd9 ho9 => w_drain (z_l X) h_st hC9 hd9 ho9 hok a1 a2)) (ch_drain C ⟨Nat.le_of_ble_eq_true rfl, Nat.le_of_ble_eq_true rfl⟩) rfl rfl (Nat.le_of_ble_eq_true rfl) rfl rfl (by show _ ≤ 600128; omega) (by show _ ≤ 7301098; omega) dL_law_1995 (fun xk M1 hq => ?_)
  obtain ⟨hk1, on1, hI1, ho1⟩ := hq
  refine z_istore (lv' := [(5, .int xk), (4, .int (nI (5 * jx))), (0, .ref b), (1, .ref x), (2, .ref m), (3, .ref ou)]) C dL_law_1998 (by decide) rfl ?_
  refine z_aload_n C dL_law_2000 rfl 4 rfl ?_
  refine z_aload_n C dL_law_2001 rfl 2 rfl ?_
  refine z_iload C dL_law_2002 1 rfl ?_
  refine z_iconst C (v := 1) dL_law_2004 (by decide) ?_
  refine z_iadd C dL_law_2005 ?_
  refine z_sld C hX hbl hbA hs1.1 hs1.2 dL_law_2006 ?_
  refine z_aload_n C dL_law_2007 rfl 2 rfl ?_
  refine z_iload C dL_law_2008 1 rfl ?_
  refine z_iconst C (v := 2) dL_law_2010 (by decide) ?_
  refine z_iadd C dL_law_2011 ?_
  refine z_sld C hX hbl hbA hs2.1 hs2.2 dL_law_2012 ?_
  obtain ⟨tp9, hm9⟩ := s_LX_m hI1
  refine z_callVi (rest := []) (k' := kq + 8) (n' := nq + 48) C (s_LX_R hI1 (fun hR9 => a_X5_drain (z_l X) hR9 hok (by omega) a1 a2)) (cs_L_231 C ⟨Nat.le_of_ble_eq_true rfl, Nat.le_of_ble_eq_true rfl⟩) hm9 rfl rfl rfl rfl (Nat.le_of_ble_eq_true rfl) rfl rfl (by show _ ≤ 600128; omega) (by show _ ≤ 7301098; omega) dL_law_2013 (fun xr M2 hq => ?_)
  obtain ⟨hI2, hr2⟩ := hq
  obtain ⟨tp8, hm8⟩ := s_LX_m hI2
  obtain ⟨os8, hou8⟩ := s_LX_ou hI2
  refine z_istore (lv' := [(6, .int xr), (5, .int xk), (4, .int (nI (5 * jx))), (0, .ref b), (1, .ref x), (2, .ref m), (3, .ref ou)]) C dL_law_2016 (by decide) rfl ?_
  refine z_aload_n C dL_law_2018 rfl 5 rfl ?_
  refine z_callVi (rest := []) (k' := kq + 8) (n' := nq + 48) C (c_X5_thrown (z_l X) (z_G X) hm8) (cs_L_150 C ⟨Nat.le_of_ble_eq_true rfl, Nat.le_of_ble_eq_true rfl⟩) hm8 rfl rfl rfl rfl (Nat.le_of_ble_eq_true rfl) rfl rfl (by show _ ≤ 600128; omega) (by show _ ≤ 7301098; omega) dL_law_2019 (fun x3 M3 hq => ?_)
  obtain ⟨e3, rfl⟩ := hq
  rw [e3]
  refine z_iload C dL_law_2022 1 rfl ?_
  refine z_icmp_eq C (tgt := 2029) dL_law_2024 (by decide) (fun _ => ?_) (fun c2024 => absurd hk1.symm c2024)
  refine z_iload C dL_law_2029 1 rfl ?_
  refine z_if_ne C (tgt := 2047) dL_law_2031 (by decide) (fun c2031 => ?_) (fun c2031 => ?_)
  · refine z_goto C (tgt := 2808) dL_law_2047 (by decide) ?_
    refine z_iinc (v := nI (5 * (jx + 1))) (lv' := [(4, .int (nI (5 * (jx + 1)))), (6, .int xr), (5, .int xk), (0, .ref b), (1, .ref x), (2, .ref m), (3, .ref ou)]) C dL_law_2808 2 rfl (j_inc5 jx) (by decide) rfl ?_
    refine z_goto C (tgt := 27) dL_law_2811 (by decide) ?_
    refine z_fewer [0, 3, 4, 5, 6] rfl ?_
    refine z_widen (k' := kq + 4000) (n' := nq + 60000) (by omega) (by omega) ?_
    exact kk _ _ _ _ hI2 (so_drain hok)
  · refine z_aload_n C dL_law_2034 rfl 6 rfl ?_
    refine gf_L_13 C hou8 dL_law_2035 ?_
    refine z_iload C dL_law_2038 0 rfl ?_
    refine z_i2l C dL_law_2040 ?_
    refine z_lcmp C dL_law_2041 ?_
    refine z_if_eq C (tgt := 2047) dL_law_2042 (by decide) (fun _ => ?_) (fun c2042 => absurd (by rw [ho1 (hk1.symm.trans c2031), hr2 (hk1.symm.trans c2031)]; exact lg_cmp_rf _) c2042)
    refine z_goto C (tgt := 2808) dL_law_2047 (by decide) ?_
    refine z_iinc (v := nI (5 * (jx + 1))) (lv' := [(4, .int (nI (5 * (jx + 1)))), (6, .int xr), (5, .int xk), (0, .ref b), (1, .ref x), (2, .ref m), (3, .ref ou)]) C dL_law_2808 2 rfl (j_inc5 jx) (by decide) rfl ?_
    refine z_goto C (tgt := 27) dL_law_2811 (by decide) ?_
    refine z_fewer [0, 3, 4, 5, 6] rfl ?_
    refine z_widen (k' := kq + 4000) (n' := nq + 60000) (by omega) (by omega) ?_
    exact kk _ _ _ _ hI2 (so_drain hok)
set_option maxRecDepth 20000 in
theorem lc_pop {X : zX} (C : z_C X cL_law RL 7 room_1) (h_st : (z_l X).stackTraces = false) {b L : Nat} {xs : Nat → Int32} (hX : va_X b L xs (z_s X) (z_s X).heap) (hbl : b < (z_s X).heap.size) (hbA : ¬ z_F X b) {jx : Nat} {a1 a2 a3 a4 : Int32} (hs1 : vp_in (nI (5 * jx) + 1) L ∧ xs (nI (5 * jx) + 1).toNatClampNeg = a1) (hs2 : vp_in (nI (5 * jx) + 2) L ∧ xs (nI (5 * jx) + 2).toNatClampNeg = a2) (hs3 : vp_in (nI (5 * jx) + 3) L ∧ xs (nI (5 * jx) + 3).toNatClampNeg = a3) (hs4 : vp_in (nI (5 * jx) + 4) L ∧ xs (nI (5 * jx) + 4).toNatClampNeg = a4) {u : sS} {x pa sp ln rf sb m pn td ou : Nat} {th : Int32} {on : Int64} {Mw : zM} (hI : s_LX (z_G X) x pa sp ln rf sb m pn td ou u u th on Mw) (hok : s_ok jx u) (hj : jx < 64) {kq nq : Nat} (hkq : kq + 4000 ≤ 600128) (hnq : nq + 60000 ≤ 7301098) (kk : ∀ v th on Mz, s_LX (z_G X) x pa sp ln rf sb m pn td ou v v th on Mz → s_ok (jx + 1) v → z_W X Mz (kq + 4000) (nq + 60000) 27 [(4, .int (nI (5 * (jx + 1)))), (0, .ref b), (1, .ref x), (2, .ref m), (3, .ref ou)] []) : z_W X Mw kq nq 2050 [(4, .int (nI (5 * jx))), (0, .ref b), (1, .ref x), (2, .ref m), (3, .ref ou)] [] := by
  refine z_aload_n C dL_law_2050 rfl 2 rfl ?_
  refine z_aload_n C dL_law_2051 rfl 1 rfl ?_
  refine z_iload C dL_law_2052 0 rfl ?_
  refine z_iconst C (v := 1) dL_law_2054 (by decide) ?_
  refine z_iadd C dL_law_2055 ?_
  refine z_sld C hX hbl hbA hs1.1 hs1.2 dL_law_2056 ?_
  refine z_aload_n C dL_law_2057 rfl 4 rfl ?_
  refine z_callHi (rest := []) (k' := kq + 8) (n' := nq + 48) C (s_LX_P hI (fun hC9 hd9 ho9 => w_pop (z_l X) h_st hC9 hd9 ho9 hok a1)) (ch_pop C ⟨Nat.le_of_ble_eq_true rfl, Nat.le_of_ble_eq_true rfl⟩) rfl rfl (Nat.le_of_ble_eq_true rfl) rfl rfl (by show _ ≤ 600128; omega) (by show _ ≤ 7301098; omega) dL_law_2058 (fun xk M1 hq => ?_)
  obtain ⟨hk1, on1, hI1, ho1⟩ := hq
  refine z_istore (lv' := [(5, .int xk), (4, .int (nI (5 * jx))), (0, .ref b), (1, .ref x), (2, .ref m), (3, .ref ou)]) C dL_law_2061 (by decide) rfl ?_
  refine z_aload_n C dL_law_2063 rfl 4 rfl ?_
  refine z_aload_n C dL_law_2064 rfl 2 rfl ?_
  refine z_iload C dL_law_2065 1 rfl ?_
  refine z_iconst C (v := 1) dL_law_2067 (by decide) ?_
  refine z_iadd C dL_law_2068 ?_
  refine z_sld C hX hbl hbA hs1.1 hs1.2 dL_law_2069 ?_
  obtain ⟨tp9, hm9⟩ := s_LX_m hI1
  refine z_callVi (rest := []) (k' := kq + 8) (n' := nq + 48) C (s_LX_R hI1 (fun hR9 => a_X5_pop (z_l X) hR9 hok (by omega) a1)) (cs_L_234 C ⟨Nat.le_of_ble_eq_true rfl, Nat.le_of_ble_eq_true rfl⟩) hm9 rfl rfl rfl rfl (Nat.le_of_ble_eq_true rfl) rfl rfl (by show _ ≤ 600128; omega) (by show _ ≤ 7301098; omega) dL_law_2070 (fun xr M2 hq => ?_)
  obtain ⟨hI2, hr2⟩ := hq
  obtain ⟨tp8, hm8⟩ := s_LX_m hI2
  obtain ⟨os8, hou8⟩ := s_LX_ou hI2
  refine z_istore (lv' := [(6, .int xr), (5, .int xk), (4, .int (nI (5 * jx))), (0, .ref b), (1, .ref x), (2, .ref m), (3, .ref ou)]) C dL_law_2073 (by decide) rfl ?_
  refine z_aload_n C dL_law_2075 rfl 5 rfl ?_
  refine z_callVi (rest := []) (k' := kq + 8) (n' := nq + 48) C (c_X5_thrown (z_l X) (z_G X) hm8) (cs_L_150 C ⟨Nat.le_of_ble_eq_true rfl, Nat.le_of_ble_eq_true rfl⟩) hm8 rfl rfl rfl rfl (Nat.le_of_ble_eq_true rfl) rfl rfl (by show _ ≤ 600128; omega) (by show _ ≤ 7301098; omega) dL_law_2076 (fun x3 M3 hq => ?_)
  obtain ⟨e3, rfl⟩ := hq
  rw [e3]
  refine z_iload C dL_law_2079 1 rfl ?_
  refine z_icmp_eq C (tgt := 2086) dL_law_2081 (by decide) (fun _ => ?_) (fun c2081 => absurd hk1.symm c2081)
  refine z_iload C dL_law_2086 1 rfl ?_
  refine z_if_ne C (tgt := 2104) dL_law_2088 (by decide) (fun c2088 => ?_) (fun c2088 => ?_)
  · refine z_goto C (tgt := 2808) dL_law_2104 (by decide) ?_
    refine z_iinc (v := nI (5 * (jx + 1))) (lv' := [(4, .int (nI (5 * (jx + 1)))), (6, .int xr), (5, .int xk), (0, .ref b), (1, .ref x), (2, .ref m), (3, .ref ou)]) C dL_law_2808 2 rfl (j_inc5 jx) (by decide) rfl ?_
    refine z_goto C (tgt := 27) dL_law_2811 (by decide) ?_
    refine z_fewer [0, 3, 4, 5, 6] rfl ?_
    refine z_widen (k' := kq + 4000) (n' := nq + 60000) (by omega) (by omega) ?_
    exact kk _ _ _ _ hI2 (so_pop hok)
  · refine z_aload_n C dL_law_2091 rfl 6 rfl ?_
    refine gf_L_13 C hou8 dL_law_2092 ?_
    refine z_iload C dL_law_2095 0 rfl ?_
    refine z_i2l C dL_law_2097 ?_
    refine z_lcmp C dL_law_2098 ?_
    refine z_if_eq C (tgt := 2104) dL_law_2099 (by decide) (fun _ => ?_) (fun c2099 => absurd (by rw [ho1 (hk1.symm.trans c2088), hr2 (hk1.symm.trans c2088)]; exact lg_cmp_rf _) c2099)
    refine z_goto C (tgt := 2808) dL_law_2104 (by decide) ?_
    refine z_iinc (v := nI (5 * (jx + 1))) (lv' := [(4, .int (nI (5 * (jx + 1)))), (6, .int xr), (5, .int xk), (0, .ref b), (1, .ref x), (2, .ref m), (3, .ref ou)]) C dL_law_2808 2 rfl (j_inc5 jx) (by decide) rfl ?_
    refine z_goto C (tgt := 27) dL_law_2811 (by decide) ?_
    refine z_fewer [0, 3, 4, 5, 6] rfl ?_
    refine z_widen (k' := kq + 4000) (n' := nq + 60000) (by omega) (by omega) ?_
    exact kk _ _ _ _ hI2 (so_pop hok)
set_option maxRecDepth 20000 in
theorem lc_ofPane {X : zX} (C : z_C X cL_law RL 7 room_1) (h_st : (z_l X).stackTraces = false) {b L : Nat} {xs : Nat → Int32} (hX : va_X b L xs (z_s X) (z_s X).heap) (hbl : b < (z_s X).heap.size) (hbA : ¬ z_F X b) {jx : Nat} {a1 a2 a3 a4 : Int32} (hs1 : vp_in (nI (5 * jx) + 1) L ∧ xs (nI (5 * jx) + 1).toNatClampNeg = a1) (hs2 : vp_in (nI (5 * jx) + 2) L ∧ xs (nI (5 * jx) + 2).toNatClampNeg = a2) (hs3 : vp_in (nI (5 * jx) + 3) L ∧ xs (nI (5 * jx) + 3).toNatClampNeg = a3) (hs4 : vp_in (nI (5 * jx) + 4) L ∧ xs (nI (5 * jx) + 4).toNatClampNeg = a4) {u : sS} {x pa sp ln rf sb m pn td ou : Nat} {th : Int32} {on : Int64} {Mw : zM} (hI : s_LX (z_G X) x pa sp ln rf sb m pn td ou u u th on Mw) (hok : s_ok jx u) (hj : jx < 64) {kq nq : Nat} (hkq : kq + 4000 ≤ 600128) (hnq : nq + 60000 ≤ 7301098) (kk : ∀ v th on Mz, s_LX (z_G X) x pa sp ln rf sb m pn td ou v v th on Mz → s_ok (jx + 1) v → z_W X Mz (kq + 4000) (nq + 60000) 27 [(4, .int (nI (5 * (jx + 1)))), (0, .ref b), (1, .ref x), (2, .ref m), (3, .ref ou)] []) : z_W X Mw kq nq 2107 [(4, .int (nI (5 * jx))), (0, .ref b), (1, .ref x), (2, .ref m), (3, .ref ou)] [] := by
  refine z_aload_n C dL_law_2107 rfl 2 rfl ?_
  refine z_aload_n C dL_law_2108 rfl 1 rfl ?_
  refine z_iload C dL_law_2109 0 rfl ?_
  refine z_iconst C (v := 1) dL_law_2111 (by decide) ?_
  refine z_iadd C dL_law_2112 ?_
  refine z_sld C hX hbl hbA hs1.1 hs1.2 dL_law_2113 ?_
  refine z_aload_n C dL_law_2114 rfl 1 rfl ?_
  refine z_iload C dL_law_2115 0 rfl ?_
  refine z_iconst C (v := 2) dL_law_2117 (by decide) ?_
  refine z_iadd C dL_law_2118 ?_
  refine z_sld C hX hbl hbA hs2.1 hs2.2 dL_law_2119 ?_
  refine z_aload_n C dL_law_2120 rfl 4 rfl ?_
  refine z_callHi (rest := []) (k' := kq + 8) (n' := nq + 48) C (s_LX_P hI (fun hC9 hd9 ho9 => w_ofPane (z_l X) h_st hC9 hd9 ho9 hok a1 a2)) (ch_ofPane C ⟨Nat.le_of_ble_eq_true rfl, Nat.le_of_ble_eq_true rfl⟩) rfl rfl (Nat.le_of_ble_eq_true rfl) rfl rfl (by show _ ≤ 600128; omega) (by show _ ≤ 7301098; omega) dL_law_2121 (fun xk M1 hq => ?_)
  obtain ⟨hk1, on1, hI1, ho1⟩ := hq
  refine z_istore (lv' := [(5, .int xk), (4, .int (nI (5 * jx))), (0, .ref b), (1, .ref x), (2, .ref m), (3, .ref ou)]) C dL_law_2124 (by decide) rfl ?_
  refine z_aload_n C dL_law_2126 rfl 4 rfl ?_
  refine z_aload_n C dL_law_2127 rfl 2 rfl ?_
  refine z_iload C dL_law_2128 1 rfl ?_
  refine z_iconst C (v := 1) dL_law_2130 (by decide) ?_
  refine z_iadd C dL_law_2131 ?_
  refine z_sld C hX hbl hbA hs1.1 hs1.2 dL_law_2132 ?_
  refine z_aload_n C dL_law_2133 rfl 2 rfl ?_
  refine z_iload C dL_law_2134 1 rfl ?_
  refine z_iconst C (v := 2) dL_law_2136 (by decide) ?_
  refine z_iadd C dL_law_2137 ?_
  refine z_sld C hX hbl hbA hs2.1 hs2.2 dL_law_2138 ?_
  obtain ⟨tp9, hm9⟩ := s_LX_m hI1
  refine z_callVi (rest := []) (k' := kq + 8 + 1) (n' := nq + 48 + 10) C (s_LX_R hI1 (fun hR9 => a_X5_ofPane (z_l X) hR9 hok (by omega) a1 a2)) (cs_L_237 C ⟨Nat.le_of_ble_eq_true rfl, Nat.le_of_ble_eq_true rfl⟩) hm9 rfl rfl rfl rfl (Nat.le_of_ble_eq_true rfl) rfl rfl (by show _ ≤ 600128; omega) (by show _ ≤ 7301098; omega) dL_law_2139 (fun xr M2 hq => ?_)
  obtain ⟨hI2, hr2⟩ := hq
  obtain ⟨tp8, hm8⟩ := s_LX_m hI2
  obtain ⟨os8, hou8⟩ := s_LX_ou hI2
  refine z_istore (lv' := [(6, .int xr), (5, .int xk), (4, .int (nI (5 * jx))), (0, .ref b), (1, .ref x), (2, .ref m), (3, .ref ou)]) C dL_law_2142 (by decide) rfl ?_
  refine z_aload_n C dL_law_2144 rfl 5 rfl ?_
  refine z_callVi (rest := []) (k' := kq + 8 + 1) (n' := nq + 48 + 10) C (c_X5_thrown (z_l X) (z_G X) hm8) (cs_L_150 C ⟨Nat.le_of_ble_eq_true rfl, Nat.le_of_ble_eq_true rfl⟩) hm8 rfl rfl rfl rfl (Nat.le_of_ble_eq_true rfl) rfl rfl (by show _ ≤ 600128; omega) (by show _ ≤ 7301098; omega) dL_law_2145 (fun x3 M3 hq => ?_)
  obtain ⟨e3, rfl⟩ := hq
  rw [e3]
  refine z_iload C dL_law_2148 1 rfl ?_
  refine z_icmp_eq C (tgt := 2155) dL_law_2150 (by decide) (fun _ => ?_) (fun c2150 => absurd hk1.symm c2150)
  refine z_iload C dL_law_2155 1 rfl ?_
  refine z_if_ne C (tgt := 2173) dL_law_2157 (by decide) (fun c2157 => ?_) (fun c2157 => ?_)
  · refine z_goto C (tgt := 2808) dL_law_2173 (by decide) ?_
    refine z_iinc (v := nI (5 * (jx + 1))) (lv' := [(4, .int (nI (5 * (jx + 1)))), (6, .int xr), (5, .int xk), (0, .ref b), (1, .ref x), (2, .ref m), (3, .ref ou)]) C dL_law_2808 2 rfl (j_inc5 jx) (by decide) rfl ?_
    refine z_goto C (tgt := 27) dL_law_2811 (by decide) ?_
    refine z_fewer [0, 3, 4, 5, 6] rfl ?_
    refine z_widen (k' := kq + 4000) (n' := nq + 60000) (by omega) (by omega) ?_
    exact kk _ _ _ _ hI2 (so_ofPane hok)
  · refine z_aload_n C dL_law_2160 rfl 6 rfl ?_
    refine gf_L_13 C hou8 dL_law_2161 ?_
    refine z_iload C dL_law_2164 0 rfl ?_
    refine z_i2l C dL_law_2166 ?_
    refine z_lcmp C dL_law_2167 ?_
    refine z_if_eq C (tgt := 2173) dL_law_2168 (by decide) (fun _ => ?_) (fun c2168 => absurd (by rw [ho1 (hk1.symm.trans c2157), hr2 (hk1.symm.trans c2157)]; exact lg_cmp_rf _) c2168)
    refine z_goto C (tgt := 2808) dL_law_2173 (by decide) ?_
    refine z_iinc (v := nI (5 * (jx + 1))) (lv' := [(4, .int (nI (5 * (jx + 1)))), (6, .int xr), (5, .int xk), (0, .ref b), (1, .ref x), (2, .ref m), (3, .ref ou)]) C dL_law_2808 2 rfl (j_inc5 jx) (by decide) rfl ?_
    refine z_goto C (tgt := 27) dL_law_2811 (by decide) ?_
    refine z_fewer [0, 3, 4, 5, 6] rfl ?_
    refine z_widen (k' := kq + 4000) (n' := nq + 60000) (by omega) (by omega) ?_
    exact kk _ _ _ _ hI2 (so_ofPane hok)
set_option maxRecDepth 20000 in
theorem lc_at {X : zX} (C : z_C X cL_law RL 7 room_1) (h_st : (z_l X).stackTraces = false) {b L : Nat} {xs : Nat → Int32} (hX : va_X b L xs (z_s X) (z_s X).heap) (hbl : b < (z_s X).heap.size) (hbA : ¬ z_F X b) {jx : Nat} {a1 a2 a3 a4 : Int32} (hs1 : vp_in (nI (5 * jx) + 1) L ∧ xs (nI (5 * jx) + 1).toNatClampNeg = a1) (hs2 : vp_in (nI (5 * jx) + 2) L ∧ xs (nI (5 * jx) + 2).toNatClampNeg = a2) (hs3 : vp_in (nI (5 * jx) + 3) L ∧ xs (nI (5 * jx) + 3).toNatClampNeg = a3) (hs4 : vp_in (nI (5 * jx) + 4) L ∧ xs (nI (5 * jx) + 4).toNatClampNeg = a4) {u : sS} {x pa sp ln rf sb m pn td ou : Nat} {th : Int32} {on : Int64} {Mw : zM} (hI : s_LX (z_G X) x pa sp ln rf sb m pn td ou u u th on Mw) (hok : s_ok jx u) (hj : jx < 64) {kq nq : Nat} (hkq : kq + 4000 ≤ 600128) (hnq : nq + 60000 ≤ 7301098) (kk : ∀ v th on Mz, s_LX (z_G X) x pa sp ln rf sb m pn td ou v v th on Mz → s_ok (jx + 1) v → z_W X Mz (kq + 4000) (nq + 60000) 27 [(4, .int (nI (5 * (jx + 1)))), (0, .ref b), (1, .ref x), (2, .ref m), (3, .ref ou)] []) : z_W X Mw kq nq 2176 [(4, .int (nI (5 * jx))), (0, .ref b), (1, .ref x), (2, .ref m), (3, .ref ou)] [] := by
  refine z_aload_n C dL_law_2176 rfl 2 rfl ?_
  refine z_aload_n C dL_law_2177 rfl 1 rfl ?_
  refine z_iload C dL_law_2178 0 rfl ?_
  refine z_iconst C (v := 1) dL_law_2180 (by decide) ?_
  refine z_iadd C dL_law_2181 ?_
  refine z_sld C hX hbl hbA hs1.1 hs1.2 dL_law_2182 ?_
  refine z_aload_n C dL_law_2183 rfl 1 rfl ?_
  refine z_iload C dL_law_2184 0 rfl ?_
  refine z_iconst C (v := 2) dL_law_2186 (by decide) ?_
  refine z_iadd C dL_law_2187 ?_
  refine z_sld C hX hbl hbA hs2.1 hs2.2 dL_law_2188 ?_
  refine z_aload_n C dL_law_2189 rfl 4 rfl ?_
  refine z_callHi (rest := []) (k' := kq + 8) (n' := nq + 48) C (s_LX_P hI (fun hC9 hd9 ho9 => w_at (z_l X) h_st hC9 hd9 ho9 hok a1 a2)) (ch_at C ⟨Nat.le_of_ble_eq_true rfl, Nat.le_of_ble_eq_true rfl⟩) rfl rfl (Nat.le_of_ble_eq_true rfl) rfl rfl (by show _ ≤ 600128; omega) (by show _ ≤ 7301098; omega) dL_law_2190 (fun xk M1 hq => ?_)
  obtain ⟨hk1, on1, hI1, ho1⟩ := hq
  refine z_istore (lv' := [(5, .int xk), (4, .int (nI (5 * jx))), (0, .ref b), (1, .ref x), (2, .ref m), (3, .ref ou)]) C dL_law_2193 (by decide) rfl ?_
  refine z_aload_n C dL_law_2195 rfl 4 rfl ?_
  refine z_aload_n C dL_law_2196 rfl 2 rfl ?_
  refine z_iload C dL_law_2197 1 rfl ?_
  refine z_iconst C (v := 1) dL_law_2199 (by decide) ?_
  refine z_iadd C dL_law_2200 ?_
  refine z_sld C hX hbl hbA hs1.1 hs1.2 dL_law_2201 ?_
  refine z_aload_n C dL_law_2202 rfl 2 rfl ?_
  refine z_iload C dL_law_2203 1 rfl ?_
  refine z_iconst C (v := 2) dL_law_2205 (by decide) ?_
  refine z_iadd C dL_law_2206 ?_
  refine z_sld C hX hbl hbA hs2.1 hs2.2 dL_law_2207 ?_
  obtain ⟨tp9, hm9⟩ := s_LX_m hI1
  refine z_callVi (rest := []) (k' := kq + 8) (n' := nq + 48) C (s_LX_R hI1 (fun hR9 => a_X5_at (z_l X) hR9 hok (by omega) a1 a2)) (cs_L_240 C ⟨Nat.le_of_ble_eq_true rfl, Nat.le_of_ble_eq_true rfl⟩) hm9 rfl rfl rfl rfl (Nat.le_of_ble_eq_true rfl) rfl rfl (by show _ ≤ 600128; omega) (by show _ ≤ 7301098; omega) dL_law_2208 (fun xr M2 hq => ?_)
  obtain ⟨hI2, hr2⟩ := hq
  obtain ⟨tp8, hm8⟩ := s_LX_m hI2
  obtain ⟨os8, hou8⟩ := s_LX_ou hI2
  refine z_istore (lv' := [(6, .int xr), (5, .int xk), (4, .int (nI (5 * jx))), (0, .ref b), (1, .ref x), (2, .ref m), (3, .ref ou)]) C dL_law_2211 (by decide) rfl ?_
  refine z_aload_n C dL_law_2213 rfl 5 rfl ?_
  refine z_callVi (rest := []) (k' := kq + 8) (n' := nq + 48) C (c_X5_thrown (z_l X) (z_G X) hm8) (cs_L_150 C ⟨Nat.le_of_ble_eq_true rfl, Nat.le_of_ble_eq_true rfl⟩) hm8 rfl rfl rfl rfl (Nat.le_of_ble_eq_true rfl) rfl rfl (by show _ ≤ 600128; omega) (by show _ ≤ 7301098; omega) dL_law_2214 (fun x3 M3 hq => ?_)
  obtain ⟨e3, rfl⟩ := hq
  rw [e3]
  refine z_iload C dL_law_2217 1 rfl ?_
  refine z_icmp_eq C (tgt := 2224) dL_law_2219 (by decide) (fun _ => ?_) (fun c2219 => absurd hk1.symm c2219)
  refine z_iload C dL_law_2224 1 rfl ?_
  refine z_if_ne C (tgt := 2242) dL_law_2226 (by decide) (fun c2226 => ?_) (fun c2226 => ?_)
  · refine z_goto C (tgt := 2808) dL_law_2242 (by decide) ?_
    refine z_iinc (v := nI (5 * (jx + 1))) (lv' := [(4, .int (nI (5 * (jx + 1)))), (6, .int xr), (5, .int xk), (0, .ref b), (1, .ref x), (2, .ref m), (3, .ref ou)]) C dL_law_2808 2 rfl (j_inc5 jx) (by decide) rfl ?_
    refine z_goto C (tgt := 27) dL_law_2811 (by decide) ?_
    refine z_fewer [0, 3, 4, 5, 6] rfl ?_
    refine z_widen (k' := kq + 4000) (n' := nq + 60000) (by omega) (by omega) ?_
    exact kk _ _ _ _ hI2 (so_at hok)
  · refine z_aload_n C dL_law_2229 rfl 6 rfl ?_
    refine gf_L_13 C hou8 dL_law_2230 ?_
    refine z_iload C dL_law_2233 0 rfl ?_
    refine z_i2l C dL_law_2235 ?_
    refine z_lcmp C dL_law_2236 ?_
    refine z_if_eq C (tgt := 2242) dL_law_2237 (by decide) (fun _ => ?_) (fun c2237 => absurd (by rw [ho1 (hk1.symm.trans c2226), hr2 (hk1.symm.trans c2226)]; exact lg_cmp_rf _) c2237)
    refine z_goto C (tgt := 2808) dL_law_2242 (by decide) ?_
    refine z_iinc (v := nI (5 * (jx + 1))) (lv' := [(4, .int (nI (5 * (jx + 1)))), (6, .int xr), (5, .int xk), (0, .ref b), (1, .ref x), (2, .ref m), (3, .ref ou)]) C dL_law_2808 2 rfl (j_inc5 jx) (by decide) rfl ?_
    refine z_goto C (tgt := 27) dL_law_2811 (by decide) ?_
    refine z_fewer [0, 3, 4, 5, 6] rfl ?_
    refine z_widen (k' := kq + 4000) (n' := nq + 60000) (by omega) (by omega) ?_
    exact kk _ _ _ _ hI2 (so_at hok)
set_option maxRecDepth 20000 in
theorem lc_peek {X : zX} (C : z_C X cL_law RL 7 room_1) (h_st : (z_l X).stackTraces = false) {b L : Nat} {xs : Nat → Int32} (hX : va_X b L xs (z_s X) (z_s X).heap) (hbl : b < (z_s X).heap.size) (hbA : ¬ z_F X b) {jx : Nat} {a1 a2 a3 a4 : Int32} (hs1 : vp_in (nI (5 * jx) + 1) L ∧ xs (nI (5 * jx) + 1).toNatClampNeg = a1) (hs2 : vp_in (nI (5 * jx) + 2) L ∧ xs (nI (5 * jx) + 2).toNatClampNeg = a2) (hs3 : vp_in (nI (5 * jx) + 3) L ∧ xs (nI (5 * jx) + 3).toNatClampNeg = a3) (hs4 : vp_in (nI (5 * jx) + 4) L ∧ xs (nI (5 * jx) + 4).toNatClampNeg = a4) {u : sS} {x pa sp ln rf sb m pn td ou : Nat} {th : Int32} {on : Int64} {Mw : zM} (hI : s_LX (z_G X) x pa sp ln rf sb m pn td ou u u th on Mw) (hok : s_ok jx u) (hj : jx < 64) {kq nq : Nat} (hkq : kq + 4000 ≤ 600128) (hnq : nq + 60000 ≤ 7301098) (kk : ∀ v th on Mz, s_LX (z_G X) x pa sp ln rf sb m pn td ou v v th on Mz → s_ok (jx + 1) v → z_W X Mz (kq + 4000) (nq + 60000) 27 [(4, .int (nI (5 * (jx + 1)))), (0, .ref b), (1, .ref x), (2, .ref m), (3, .ref ou)] []) : z_W X Mw kq nq 2245 [(4, .int (nI (5 * jx))), (0, .ref b), (1, .ref x), (2, .ref m), (3, .ref ou)] [] := by
  refine z_aload_n C dL_law_2245 rfl 2 rfl ?_
  refine z_aload_n C dL_law_2246 rfl 1 rfl ?_
  refine z_iload C dL_law_2247 0 rfl ?_
  refine z_iconst C (v := 1) dL_law_2249 (by decide) ?_
  refine z_iadd C dL_law_2250 ?_
  refine z_sld C hX hbl hbA hs1.1 hs1.2 dL_law_2251 ?_
  refine z_aload_n C dL_law_2252 rfl 4 rfl ?_
  refine z_callHi (rest := []) (k' := kq + 8) (n' := nq + 48) C (s_LX_P hI (fun hC9 hd9 ho9 => w_peek (z_l X) h_st hC9 hd9 ho9 hok a1)) (ch_peek C ⟨Nat.le_of_ble_eq_true rfl, Nat.le_of_ble_eq_true rfl⟩) rfl rfl (Nat.le_of_ble_eq_true rfl) rfl rfl (by show _ ≤ 600128; omega) (by show _ ≤ 7301098; omega) dL_law_2253 (fun xk M1 hq => ?_)
  obtain ⟨hk1, on1, hI1, ho1⟩ := hq
  refine z_istore (lv' := [(5, .int xk), (4, .int (nI (5 * jx))), (0, .ref b), (1, .ref x), (2, .ref m), (3, .ref ou)]) C dL_law_2256 (by decide) rfl ?_
  refine z_aload_n C dL_law_2258 rfl 4 rfl ?_
  refine z_aload_n C dL_law_2259 rfl 2 rfl ?_
  refine z_iload C dL_law_2260 1 rfl ?_
  refine z_iconst C (v := 1) dL_law_2262 (by decide) ?_
  refine z_iadd C dL_law_2263 ?_
  refine z_sld C hX hbl hbA hs1.1 hs1.2 dL_law_2264 ?_
  obtain ⟨tp9, hm9⟩ := s_LX_m hI1
  refine z_callVi (rest := []) (k' := kq + 8) (n' := nq + 48) C (s_LX_R hI1 (fun hR9 => a_X5_peek (z_l X) hR9 hok (by omega) a1)) (cs_L_243 C ⟨Nat.le_of_ble_eq_true rfl, Nat.le_of_ble_eq_true rfl⟩) hm9 rfl rfl rfl rfl (Nat.le_of_ble_eq_true rfl) rfl rfl (by show _ ≤ 600128; omega) (by show _ ≤ 7301098; omega) dL_law_2265 (fun xr M2 hq => ?_)
  obtain ⟨hI2, hr2⟩ := hq
  obtain ⟨tp8, hm8⟩ := s_LX_m hI2
  obtain ⟨os8, hou8⟩ := s_LX_ou hI2
  refine z_istore (lv' := [(6, .int xr), (5, .int xk), (4, .int (nI (5 * jx))), (0, .ref b), (1, .ref x), (2, .ref m), (3, .ref ou)]) C dL_law_2268 (by decide) rfl ?_
  refine z_aload_n C dL_law_2270 rfl 5 rfl ?_
  refine z_callVi (rest := []) (k' := kq + 8) (n' := nq + 48) C (c_X5_thrown (z_l X) (z_G X) hm8) (cs_L_150 C ⟨Nat.le_of_ble_eq_true rfl, Nat.le_of_ble_eq_true rfl⟩) hm8 rfl rfl rfl rfl (Nat.le_of_ble_eq_true rfl) rfl rfl (by show _ ≤ 600128; omega) (by show _ ≤ 7301098; omega) dL_law_2271 (fun x3 M3 hq => ?_)
  obtain ⟨e3, rfl⟩ := hq
  rw [e3]
  refine z_iload C dL_law_2274 1 rfl ?_
  refine z_icmp_eq C (tgt := 2281) dL_law_2276 (by decide) (fun _ => ?_) (fun c2276 => absurd hk1.symm c2276)
  refine z_iload C dL_law_2281 1 rfl ?_
  refine z_if_ne C (tgt := 2299) dL_law_2283 (by decide) (fun c2283 => ?_) (fun c2283 => ?_)
  · refine z_goto C (tgt := 2808) dL_law_2299 (by decide) ?_
    refine z_iinc (v := nI (5 * (jx + 1))) (lv' := [(4, .int (nI (5 * (jx + 1)))), (6, .int xr), (5, .int xk), (0, .ref b), (1, .ref x), (2, .ref m), (3, .ref ou)]) C dL_law_2808 2 rfl (j_inc5 jx) (by decide) rfl ?_
    refine z_goto C (tgt := 27) dL_law_2811 (by decide) ?_
    refine z_fewer [0, 3, 4, 5, 6] rfl ?_
    refine z_widen (k' := kq + 4000) (n' := nq + 60000) (by omega) (by omega) ?_
    exact kk _ _ _ _ hI2 (so_peek hok)
  · refine z_aload_n C dL_law_2286 rfl 6 rfl ?_
    refine gf_L_13 C hou8 dL_law_2287 ?_
    refine z_iload C dL_law_2290 0 rfl ?_
    refine z_i2l C dL_law_2292 ?_
    refine z_lcmp C dL_law_2293 ?_
    refine z_if_eq C (tgt := 2299) dL_law_2294 (by decide) (fun _ => ?_) (fun c2294 => absurd (by rw [ho1 (hk1.symm.trans c2283), hr2 (hk1.symm.trans c2283)]; exact lg_cmp_rf _) c2294)
    refine z_goto C (tgt := 2808) dL_law_2299 (by decide) ?_
    refine z_iinc (v := nI (5 * (jx + 1))) (lv' := [(4, .int (nI (5 * (jx + 1)))), (6, .int xr), (5, .int xk), (0, .ref b), (1, .ref x), (2, .ref m), (3, .ref ou)]) C dL_law_2808 2 rfl (j_inc5 jx) (by decide) rfl ?_
    refine z_goto C (tgt := 27) dL_law_2811 (by decide) ?_
    refine z_fewer [0, 3, 4, 5, 6] rfl ?_
    refine z_widen (k' := kq + 4000) (n' := nq + 60000) (by omega) (by omega) ?_
    exact kk _ _ _ _ hI2 (so_peek hok)
set_option maxRecDepth 20000 in
theorem lc_total {X : zX} (C : z_C X cL_law RL 7 room_1) (h_st : (z_l X).stackTraces = false) {b L : Nat} {xs : Nat → Int32} (hX : va_X b L xs (z_s X) (z_s X).heap) (hbl : b < (z_s X).heap.size) (hbA : ¬ z_F X b) {jx : Nat} {a1 a2 a3 a4 : Int32} (hs1 : vp_in (nI (5 * jx) + 1) L ∧ xs (nI (5 * jx) + 1).toNatClampNeg = a1) (hs2 : vp_in (nI (5 * jx) + 2) L ∧ xs (nI (5 * jx) + 2).toNatClampNeg = a2) (hs3 : vp_in (nI (5 * jx) + 3) L ∧ xs (nI (5 * jx) + 3).toNatClampNeg = a3) (hs4 : vp_in (nI (5 * jx) + 4) L ∧ xs (nI (5 * jx) + 4).toNatClampNeg = a4) {u : sS} {x pa sp ln rf sb m pn td ou : Nat} {th : Int32} {on : Int64} {Mw : zM} (hI : s_LX (z_G X) x pa sp ln rf sb m pn td ou u u th on Mw) (hok : s_ok jx u) (hj : jx < 64) {kq nq : Nat} (hkq : kq + 4000 ≤ 600128) (hnq : nq + 60000 ≤ 7301098) (kk : ∀ v th on Mz, s_LX (z_G X) x pa sp ln rf sb m pn td ou v v th on Mz → s_ok (jx + 1) v → z_W X Mz (kq + 4000) (nq + 60000) 27 [(4, .int (nI (5 * (jx + 1)))), (0, .ref b), (1, .ref x), (2, .ref m), (3, .ref ou)] []) : z_W X Mw kq nq 2302 [(4, .int (nI (5 * jx))), (0, .ref b), (1, .ref x), (2, .ref m), (3, .ref ou)] [] := by
  refine z_aload_n C dL_law_2302 rfl 2 rfl ?_
  refine z_aload_n C dL_law_2303 rfl 1 rfl ?_
  refine z_iload C dL_law_2304 0 rfl ?_
  refine z_iconst C (v := 1) dL_law_2306 (by decide) ?_
  refine z_iadd C dL_law_2307 ?_
  refine z_sld C hX hbl hbA hs1.1 hs1.2 dL_law_2308 ?_
  refine z_aload_n C dL_law_2309 rfl 4 rfl ?_
  refine z_callHi (rest := []) (k' := kq + 40) (n' := nq + 1500) C (s_LX_T hI (fun hC9 hd9 ho9 => w_total (z_l X) h_st hC9 hd9 ho9 hok a1)) (ch_total C ⟨Nat.le_of_ble_eq_true rfl, Nat.le_of_ble_eq_true rfl⟩) rfl rfl (Nat.le_of_ble_eq_true rfl) rfl rfl (by show _ ≤ 600128; omega) (by show _ ≤ 7301098; omega) dL_law_2310 (fun xk M1 hq => ?_)
  obtain ⟨hk1, on1, hF1⟩ := hq
  have hI1 := s_LF_X hF1
  refine z_istore (lv' := [(5, .int xk), (4, .int (nI (5 * jx))), (0, .ref b), (1, .ref x), (2, .ref m), (3, .ref ou)]) C dL_law_2313 (by decide) rfl ?_
  refine z_aload_n C dL_law_2315 rfl 4 rfl ?_
  refine z_aload_n C dL_law_2316 rfl 2 rfl ?_
  refine z_iload C dL_law_2317 1 rfl ?_
  refine z_iconst C (v := 1) dL_law_2319 (by decide) ?_
  refine z_iadd C dL_law_2320 ?_
  refine z_sld C hX hbl hbA hs1.1 hs1.2 dL_law_2321 ?_
  obtain ⟨tp9, hm9⟩ := s_LX_m hI1
  refine z_callVr (rest := []) (k' := kq + 40 + 40) (n' := nq + 1500 + 1500) C (s_LX_RT hF1 (fun hR9 => a_X5_total (z_l X) hR9 hok (by omega) a1)) (cs_L_246 C ⟨Nat.le_of_ble_eq_true rfl, Nat.le_of_ble_eq_true rfl⟩) hm9 rfl rfl rfl rfl (Nat.le_of_ble_eq_true rfl) rfl rfl (by show _ ≤ 600128; omega) (by show _ ≤ 7301098; omega) dL_law_2322 (fun xr M2 hq => ?_)
  obtain ⟨hI2, hS2, C9, os8, hF9, hou8, hm10⟩ := hq
  obtain ⟨tp8, hm8⟩ := s_LX_m hI2
  refine z_astore (lv' := [(6, .ref xr), (5, .int xk), (4, .int (nI (5 * jx))), (0, .ref b), (1, .ref x), (2, .ref m), (3, .ref ou)]) C dL_law_2325 (by decide) rfl ?_
  refine z_aload_n C dL_law_2327 rfl 5 rfl ?_
  refine z_callVi (rest := []) (k' := kq + 40 + 40) (n' := nq + 1500 + 1500) C (c_X5_thrown (z_l X) (z_G X) hm8) (cs_L_150 C ⟨Nat.le_of_ble_eq_true rfl, Nat.le_of_ble_eq_true rfl⟩) hm8 rfl rfl rfl rfl (Nat.le_of_ble_eq_true rfl) rfl rfl (by show _ ≤ 600128; omega) (by show _ ≤ 7301098; omega) dL_law_2328 (fun x3 M3 hq => ?_)
  obtain ⟨e3, rfl⟩ := hq
  rw [e3]
  refine z_iload C dL_law_2331 1 rfl ?_
  refine z_icmp_eq C (tgt := 2338) dL_law_2333 (by decide) (fun _ => ?_) (fun c2333 => absurd hk1.symm c2333)
  refine z_iload C dL_law_2338 1 rfl ?_
  refine z_if_ne C (tgt := 2357) dL_law_2340 (by decide) (fun c2340 => ?_) (fun c2340 => ?_)
  · refine z_goto C (tgt := 2808) dL_law_2357 (by decide) ?_
    refine z_iinc (v := nI (5 * (jx + 1))) (lv' := [(4, .int (nI (5 * (jx + 1)))), (6, .ref xr), (5, .int xk), (0, .ref b), (1, .ref x), (2, .ref m), (3, .ref ou)]) C dL_law_2808 2 rfl (j_inc5 jx) (by decide) rfl ?_
    refine z_goto C (tgt := 27) dL_law_2811 (by decide) ?_
    refine z_fewer [0, 3, 4, 5, 6] rfl ?_
    refine z_widen (k' := kq + 4000) (n' := nq + 60000) (by omega) (by omega) ?_
    exact kk _ _ _ _ hI2 (s_ok_mono hok (Nat.le_succ _))
  · obtain ⟨ls9, hQ9, hT9⟩ := hS2 (hk1.symm.trans c2340)
    obtain ⟨s9, hos9, hU9⟩ := hF9 (hk1.symm.trans c2340)
    rw [hos9] at hou8
    have hV9 := j_St_up hU9 hm10
    obtain ⟨q9, cc9, f9, hs9, -⟩ := id hV9
    refine z_aload_n C dL_law_2343 rfl 6 rfl ?_
    refine gf_L_117 C hou8 dL_law_2344 ?_
    refine z_aload C dL_law_2347 0 rfl ?_
    refine z_callVi (rest := []) (k' := kq + 40 + 40) (n' := nq + 1500 + 1500) C (c_equals (z_l X) (z_G X) hV9 (j_St_eq hT9 hQ9)) (cs_L_247 C ⟨Nat.le_of_ble_eq_true rfl, Nat.le_of_ble_eq_true rfl⟩) hs9 rfl rfl rfl rfl (Nat.le_of_ble_eq_true rfl) rfl rfl (by show _ ≤ 600128; omega) (by show _ ≤ 7301098; omega) dL_law_2349 (fun x4 M4 hq => ?_)
    obtain ⟨e4, rfl⟩ := hq
    rw [e4]
    refine z_if_ne C (tgt := 2357) dL_law_2352 (by decide) (fun _ => ?_) (fun c2352 => absurd c2352 (by decide))
    refine z_goto C (tgt := 2808) dL_law_2357 (by decide) ?_
    refine z_iinc (v := nI (5 * (jx + 1))) (lv' := [(4, .int (nI (5 * (jx + 1)))), (6, .ref xr), (5, .int xk), (0, .ref b), (1, .ref x), (2, .ref m), (3, .ref ou)]) C dL_law_2808 2 rfl (j_inc5 jx) (by decide) rfl ?_
    refine z_goto C (tgt := 27) dL_law_2811 (by decide) ?_
    refine z_fewer [0, 3, 4, 5, 6] rfl ?_
    refine z_widen (k' := kq + 4000) (n' := nq + 60000) (by omega) (by omega) ?_
    exact kk _ _ _ _ hI2 (s_ok_mono hok (Nat.le_succ _))
set_option maxRecDepth 20000 in
theorem lc_text {X : zX} (C : z_C X cL_law RL 7 room_1) (h_st : (z_l X).stackTraces = false) {b L : Nat} {xs : Nat → Int32} (hX : va_X b L xs (z_s X) (z_s X).heap) (hbl : b < (z_s X).heap.size) (hbA : ¬ z_F X b) {jx : Nat} {a1 a2 a3 a4 : Int32} (hs1 : vp_in (nI (5 * jx) + 1) L ∧ xs (nI (5 * jx) + 1).toNatClampNeg = a1) (hs2 : vp_in (nI (5 * jx) + 2) L ∧ xs (nI (5 * jx) + 2).toNatClampNeg = a2) (hs3 : vp_in (nI (5 * jx) + 3) L ∧ xs (nI (5 * jx) + 3).toNatClampNeg = a3) (hs4 : vp_in (nI (5 * jx) + 4) L ∧ xs (nI (5 * jx) + 4).toNatClampNeg = a4) {u : sS} {x pa sp ln rf sb m pn td ou : Nat} {th : Int32} {on : Int64} {Mw : zM} (hI : s_LX (z_G X) x pa sp ln rf sb m pn td ou u u th on Mw) (hok : s_ok jx u) (hj : jx < 64) {kq nq : Nat} (hkq : kq + 4000 ≤ 600128) (hnq : nq + 60000 ≤ 7301098) (kk : ∀ v th on Mz, s_LX (z_G X) x pa sp ln rf sb m pn td ou v v th on Mz → s_ok (jx + 1) v → z_W X Mz (kq + 4000) (nq + 60000) 27 [(4, .int (nI (5 * (jx + 1)))), (0, .ref b), (1, .ref x), (2, .ref m), (3, .ref ou)] []) : z_W X Mw kq nq 2360 [(4, .int (nI (5 * jx))), (0, .ref b), (1, .ref x), (2, .ref m), (3, .ref ou)] [] := by
  refine z_aload_n C dL_law_2360 rfl 2 rfl ?_
  refine z_aload_n C dL_law_2361 rfl 1 rfl ?_
  refine z_iload C dL_law_2362 0 rfl ?_
  refine z_iconst C (v := 1) dL_law_2364 (by decide) ?_
  refine z_iadd C dL_law_2365 ?_
  refine z_sld C hX hbl hbA hs1.1 hs1.2 dL_law_2366 ?_
  refine z_aload_n C dL_law_2367 rfl 4 rfl ?_
  refine z_callHi (rest := []) (k' := kq + 40) (n' := nq + 1500) C (s_LX_T hI (fun hC9 hd9 ho9 => w_text (z_l X) h_st hC9 hd9 ho9 hok a1)) (ch_text C ⟨Nat.le_of_ble_eq_true rfl, Nat.le_of_ble_eq_true rfl⟩) rfl rfl (Nat.le_of_ble_eq_true rfl) rfl rfl (by show _ ≤ 600128; omega) (by show _ ≤ 7301098; omega) dL_law_2368 (fun xk M1 hq => ?_)
  obtain ⟨hk1, on1, hF1⟩ := hq
  have hI1 := s_LF_X hF1
  refine z_istore (lv' := [(5, .int xk), (4, .int (nI (5 * jx))), (0, .ref b), (1, .ref x), (2, .ref m), (3, .ref ou)]) C dL_law_2371 (by decide) rfl ?_
  refine z_aload_n C dL_law_2373 rfl 4 rfl ?_
  refine z_aload_n C dL_law_2374 rfl 2 rfl ?_
  refine z_iload C dL_law_2375 1 rfl ?_
  refine z_iconst C (v := 1) dL_law_2377 (by decide) ?_
  refine z_iadd C dL_law_2378 ?_
  refine z_sld C hX hbl hbA hs1.1 hs1.2 dL_law_2379 ?_
  obtain ⟨tp9, hm9⟩ := s_LX_m hI1
  refine z_callVr (rest := []) (k' := kq + 40 + 40) (n' := nq + 1500 + 1500) C (s_LX_RT hF1 (fun hR9 => a_X5_text (z_l X) hR9 hok (by omega) a1)) (cs_L_255 C ⟨Nat.le_of_ble_eq_true rfl, Nat.le_of_ble_eq_true rfl⟩) hm9 rfl rfl rfl rfl (Nat.le_of_ble_eq_true rfl) rfl rfl (by show _ ≤ 600128; omega) (by show _ ≤ 7301098; omega) dL_law_2380 (fun xr M2 hq => ?_)
  obtain ⟨hI2, hS2, C9, os8, hF9, hou8, hm10⟩ := hq
  obtain ⟨tp8, hm8⟩ := s_LX_m hI2
  refine z_astore (lv' := [(6, .ref xr), (5, .int xk), (4, .int (nI (5 * jx))), (0, .ref b), (1, .ref x), (2, .ref m), (3, .ref ou)]) C dL_law_2383 (by decide) rfl ?_
  refine z_aload_n C dL_law_2385 rfl 5 rfl ?_
  refine z_callVi (rest := []) (k' := kq + 40 + 40) (n' := nq + 1500 + 1500) C (c_X5_thrown (z_l X) (z_G X) hm8) (cs_L_150 C ⟨Nat.le_of_ble_eq_true rfl, Nat.le_of_ble_eq_true rfl⟩) hm8 rfl rfl rfl rfl (Nat.le_of_ble_eq_true rfl) rfl rfl (by show _ ≤ 600128; omega) (by show _ ≤ 7301098; omega) dL_law_2386 (fun x3 M3 hq => ?_)
  obtain ⟨e3, rfl⟩ := hq
  rw [e3]
  refine z_iload C dL_law_2389 1 rfl ?_
  refine z_icmp_eq C (tgt := 2396) dL_law_2391 (by decide) (fun _ => ?_) (fun c2391 => absurd hk1.symm c2391)
  refine z_iload C dL_law_2396 1 rfl ?_
  refine z_if_ne C (tgt := 2415) dL_law_2398 (by decide) (fun c2398 => ?_) (fun c2398 => ?_)
  · refine z_goto C (tgt := 2808) dL_law_2415 (by decide) ?_
    refine z_iinc (v := nI (5 * (jx + 1))) (lv' := [(4, .int (nI (5 * (jx + 1)))), (6, .ref xr), (5, .int xk), (0, .ref b), (1, .ref x), (2, .ref m), (3, .ref ou)]) C dL_law_2808 2 rfl (j_inc5 jx) (by decide) rfl ?_
    refine z_goto C (tgt := 27) dL_law_2811 (by decide) ?_
    refine z_fewer [0, 3, 4, 5, 6] rfl ?_
    refine z_widen (k' := kq + 4000) (n' := nq + 60000) (by omega) (by omega) ?_
    exact kk _ _ _ _ hI2 (s_ok_mono hok (Nat.le_succ _))
  · obtain ⟨ls9, hQ9, hT9⟩ := hS2 (hk1.symm.trans c2398)
    obtain ⟨s9, hos9, hU9⟩ := hF9 (hk1.symm.trans c2398)
    rw [hos9] at hou8
    have hV9 := j_St_up hU9 hm10
    obtain ⟨q9, cc9, f9, hs9, -⟩ := id hV9
    refine z_aload_n C dL_law_2401 rfl 6 rfl ?_
    refine gf_L_117 C hou8 dL_law_2402 ?_
    refine z_aload C dL_law_2405 0 rfl ?_
    refine z_callVi (rest := []) (k' := kq + 40 + 40) (n' := nq + 1500 + 1500) C (c_equals (z_l X) (z_G X) hV9 (j_St_eq hT9 hQ9)) (cs_L_247 C ⟨Nat.le_of_ble_eq_true rfl, Nat.le_of_ble_eq_true rfl⟩) hs9 rfl rfl rfl rfl (Nat.le_of_ble_eq_true rfl) rfl rfl (by show _ ≤ 600128; omega) (by show _ ≤ 7301098; omega) dL_law_2407 (fun x4 M4 hq => ?_)
    obtain ⟨e4, rfl⟩ := hq
    rw [e4]
    refine z_if_ne C (tgt := 2415) dL_law_2410 (by decide) (fun _ => ?_) (fun c2410 => absurd c2410 (by decide))
    refine z_goto C (tgt := 2808) dL_law_2415 (by decide) ?_
    refine z_iinc (v := nI (5 * (jx + 1))) (lv' := [(4, .int (nI (5 * (jx + 1)))), (6, .ref xr), (5, .int xk), (0, .ref b), (1, .ref x), (2, .ref m), (3, .ref ou)]) C dL_law_2808 2 rfl (j_inc5 jx) (by decide) rfl ?_
    refine z_goto C (tgt := 27) dL_law_2811 (by decide) ?_
    refine z_fewer [0, 3, 4, 5, 6] rfl ?_
    refine z_widen (k' := kq + 4000) (n' := nq + 60000) (by omega) (by omega) ?_
    exact kk _ _ _ _ hI2 (s_ok_mono hok (Nat.le_succ _))
set_option maxRecDepth 20000 in
theorem lc_whole {X : zX} (C : z_C X cL_law RL 7 room_1) (h_st : (z_l X).stackTraces = false) {b L : Nat} {xs : Nat → Int32} (hX : va_X b L xs (z_s X) (z_s X).heap) (hbl : b < (z_s X).heap.size) (hbA : ¬ z_F X b) {jx : Nat} {a1 a2 a3 a4 : Int32} (hs1 : vp_in (nI (5 * jx) + 1) L ∧ xs (nI (5 * jx) + 1).toNatClampNeg = a1) (hs2 : vp_in (nI (5 * jx) + 2) L ∧ xs (nI (5 * jx) + 2).toNatClampNeg = a2) (hs3 : vp_in (nI (5 * jx) + 3) L ∧ xs (nI (5 * jx) + 3).toNatClampNeg = a3) (hs4 : vp_in (nI (5 * jx) + 4) L ∧ xs (nI (5 * jx) + 4).toNatClampNeg = a4) {u : sS} {x pa sp ln rf sb m pn td ou : Nat} {th : Int32} {on : Int64} {Mw : zM} (hI : s_LX (z_G X) x pa sp ln rf sb m pn td ou u u th on Mw) (hok : s_ok jx u) (hj : jx < 64) {kq nq : Nat} (hkq : kq + 4000 ≤ 600128) (hnq : nq + 60000 ≤ 7301098) (kk : ∀ v th on Mz, s_LX (z_G X) x pa sp ln rf sb m pn td ou v v th on Mz → s_ok (jx + 1) v → z_W X Mz (kq + 4000) (nq + 60000) 27 [(4, .int (nI (5 * (jx + 1)))), (0, .ref b), (1, .ref x), (2, .ref m), (3, .ref ou)] []) : z_W X Mw kq nq 2418 [(4, .int (nI (5 * jx))), (0, .ref b), (1, .ref x), (2, .ref m), (3, .ref ou)] [] := by
  refine z_aload_n C dL_law_2418 rfl 2 rfl ?_
  refine z_aload_n C dL_law_2419 rfl 1 rfl ?_
  refine z_iload C dL_law_2420 0 rfl ?_
  refine z_iconst C (v := 1) dL_law_2422 (by decide) ?_
  refine z_iadd C dL_law_2423 ?_
  refine z_sld C hX hbl hbA hs1.1 hs1.2 dL_law_2424 ?_
  refine z_aload_n C dL_law_2425 rfl 4 rfl ?_
  refine z_callHi (rest := []) (k' := kq + 40) (n' := nq + 1500) C (s_LX_T hI (fun hC9 hd9 ho9 => w_whole (z_l X) h_st hC9 hd9 ho9 hok a1)) (ch_whole C ⟨Nat.le_of_ble_eq_true rfl, Nat.le_of_ble_eq_true rfl⟩) rfl rfl (Nat.le_of_ble_eq_true rfl) rfl rfl (by show _ ≤ 600128; omega) (by show _ ≤ 7301098; omega) dL_law_2426 (fun xk M1 hq => ?_)
  obtain ⟨hk1, on1, hF1⟩ := hq
  have hI1 := s_LF_X hF1
  refine z_istore (lv' := [(5, .int xk), (4, .int (nI (5 * jx))), (0, .ref b), (1, .ref x), (2, .ref m), (3, .ref ou)]) C dL_law_2429 (by decide) rfl ?_
  refine z_aload_n C dL_law_2431 rfl 4 rfl ?_
  refine z_aload_n C dL_law_2432 rfl 2 rfl ?_
  refine z_iload C dL_law_2433 1 rfl ?_
  refine z_iconst C (v := 1) dL_law_2435 (by decide) ?_
  refine z_iadd C dL_law_2436 ?_
  refine z_sld C hX hbl hbA hs1.1 hs1.2 dL_law_2437 ?_
  obtain ⟨tp9, hm9⟩ := s_LX_m hI1
  refine z_callVr (rest := []) (k' := kq + 40 + 40) (n' := nq + 1500 + 1500) C (s_LX_RT hF1 (fun hR9 => a_X5_whole (z_l X) hR9 hok (by omega) a1)) (cs_L_258 C ⟨Nat.le_of_ble_eq_true rfl, Nat.le_of_ble_eq_true rfl⟩) hm9 rfl rfl rfl rfl (Nat.le_of_ble_eq_true rfl) rfl rfl (by show _ ≤ 600128; omega) (by show _ ≤ 7301098; omega) dL_law_2438 (fun xr M2 hq => ?_)
  obtain ⟨hI2, hS2, C9, os8, hF9, hou8, hm10⟩ := hq
  obtain ⟨tp8, hm8⟩ := s_LX_m hI2
  refine z_astore (lv' := [(6, .ref xr), (5, .int xk), (4, .int (nI (5 * jx))), (0, .ref b), (1, .ref x), (2, .ref m), (3, .ref ou)]) C dL_law_2441 (by decide) rfl ?_
  refine z_aload_n C dL_law_2443 rfl 5 rfl ?_
  refine z_callVi (rest := []) (k' := kq + 40 + 40) (n' := nq + 1500 + 1500) C (c_X5_thrown (z_l X) (z_G X) hm8) (cs_L_150 C ⟨Nat.le_of_ble_eq_true rfl, Nat.le_of_ble_eq_true rfl⟩) hm8 rfl rfl rfl rfl (Nat.le_of_ble_eq_true rfl) rfl rfl (by show _ ≤ 600128; omega) (by show _ ≤ 7301098; omega) dL_law_2444 (fun x3 M3 hq => ?_)
  obtain ⟨e3, rfl⟩ := hq
  rw [e3]
  refine z_iload C dL_law_2447 1 rfl ?_
  refine z_icmp_eq C (tgt := 2454) dL_law_2449 (by decide) (fun _ => ?_) (fun c2449 => absurd hk1.symm c2449)
  refine z_iload C dL_law_2454 1 rfl ?_
  refine z_if_ne C (tgt := 2473) dL_law_2456 (by decide) (fun c2456 => ?_) (fun c2456 => ?_)
  · refine z_goto C (tgt := 2808) dL_law_2473 (by decide) ?_
    refine z_iinc (v := nI (5 * (jx + 1))) (lv' := [(4, .int (nI (5 * (jx + 1)))), (6, .ref xr), (5, .int xk), (0, .ref b), (1, .ref x), (2, .ref m), (3, .ref ou)]) C dL_law_2808 2 rfl (j_inc5 jx) (by decide) rfl ?_
    refine z_goto C (tgt := 27) dL_law_2811 (by decide) ?_
    refine z_fewer [0, 3, 4, 5, 6] rfl ?_
    refine z_widen (k' := kq + 4000) (n' := nq + 60000) (by omega) (by omega) ?_
    exact kk _ _ _ _ hI2 (s_ok_mono hok (Nat.le_succ _))
  · obtain ⟨ls9, hQ9, hT9⟩ := hS2 (hk1.symm.trans c2456)
    obtain ⟨s9, hos9, hU9⟩ := hF9 (hk1.symm.trans c2456)
    rw [hos9] at hou8
    have hV9 := j_St_up hU9 hm10
    obtain ⟨q9, cc9, f9, hs9, -⟩ := id hV9
    refine z_aload_n C dL_law_2459 rfl 6 rfl ?_
    refine gf_L_117 C hou8 dL_law_2460 ?_
    refine z_aload C dL_law_2463 0 rfl ?_
    refine z_callVi (rest := []) (k' := kq + 40 + 40) (n' := nq + 1500 + 1500) C (c_equals (z_l X) (z_G X) hV9 (j_St_eq hT9 hQ9)) (cs_L_247 C ⟨Nat.le_of_ble_eq_true rfl, Nat.le_of_ble_eq_true rfl⟩) hs9 rfl rfl rfl rfl (Nat.le_of_ble_eq_true rfl) rfl rfl (by show _ ≤ 600128; omega) (by show _ ≤ 7301098; omega) dL_law_2465 (fun x4 M4 hq => ?_)
    obtain ⟨e4, rfl⟩ := hq
    rw [e4]
    refine z_if_ne C (tgt := 2473) dL_law_2468 (by decide) (fun _ => ?_) (fun c2468 => absurd c2468 (by decide))
    refine z_goto C (tgt := 2808) dL_law_2473 (by decide) ?_
    refine z_iinc (v := nI (5 * (jx + 1))) (lv' := [(4, .int (nI (5 * (jx + 1)))), (6, .ref xr), (5, .int xk), (0, .ref b), (1, .ref x), (2, .ref m), (3, .ref ou)]) C dL_law_2808 2 rfl (j_inc5 jx) (by decide) rfl ?_
    refine z_goto C (tgt := 27) dL_law_2811 (by decide) ?_
    refine z_fewer [0, 3, 4, 5, 6] rfl ?_
    refine z_widen (k' := kq + 4000) (n' := nq + 60000) (by omega) (by omega) ?_
    exact kk _ _ _ _ hI2 (s_ok_mono hok (Nat.le_succ _))
