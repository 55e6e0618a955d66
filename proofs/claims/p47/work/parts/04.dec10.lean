theorem dL_law_1763 : decode cL_law 1763 = .ok (.ifCond .le 18, 3) := by decide +kernel
theorem dL_law_1766 : decode cL_law 1766 = .ok (.aload_n 1, 1) := by decide +kernel
theorem dL_law_1767 : decode cL_law 1767 = .ok (.bipush 98, 2) := by decide +kernel
theorem dL_law_1769 : decode cL_law 1769 = .ok (.iconst 0, 1) := by decide +kernel
theorem dL_law_1770 : decode cL_law 1770 = .ok (.bipush 8, 2) := by decide +kernel
theorem dL_law_1772 : decode cL_law 1772 = .ok (.invokestatic 178, 3) := by decide +kernel
theorem dL_law_1775 : decode cL_law 1775 = .ok (.sipush (-1002), 3) := by decide +kernel
theorem dL_law_1778 : decode cL_law 1778 = .ok (.if_icmp .ne 204, 3) := by decide +kernel
theorem dL_law_1781 : decode cL_law 1781 = .ok (.iload 6, 2) := by decide +kernel
theorem dL_law_1783 : decode cL_law 1783 = .ok (.ifCond .le 17, 3) := by decide +kernel
theorem dL_law_1786 : decode cL_law 1786 = .ok (.aload_n 1, 1) := by decide +kernel
theorem dL_law_1787 : decode cL_law 1787 = .ok (.bipush 111, 2) := by decide +kernel
theorem dL_law_1789 : decode cL_law 1789 = .ok (.iconst 0, 1) := by decide +kernel
theorem dL_law_1790 : decode cL_law 1790 = .ok (.iconst (-1), 1) := by decide +kernel
theorem dL_law_1791 : decode cL_law 1791 = .ok (.invokestatic 178, 3) := by decide +kernel
theorem dL_law_1794 : decode cL_law 1794 = .ok (.sipush (-1002), 3) := by decide +kernel
theorem dL_law_1797 : decode cL_law 1797 = .ok (.if_icmp .ne 185, 3) := by decide +kernel
theorem dL_law_1800 : decode cL_law 1800 = .ok (.iload 6, 2) := by decide +kernel
theorem dL_law_1802 : decode cL_law 1802 = .ok (.ifCond .le 18, 3) := by decide +kernel
theorem dL_law_1805 : decode cL_law 1805 = .ok (.aload_n 1, 1) := by decide +kernel
theorem dL_law_1806 : decode cL_law 1806 = .ok (.bipush 117, 2) := by decide +kernel
theorem dL_law_1808 : decode cL_law 1808 = .ok (.iconst 0, 1) := by decide +kernel
theorem dL_law_1809 : decode cL_law 1809 = .ok (.bipush 8, 2) := by decide +kernel
theorem dL_law_1811 : decode cL_law 1811 = .ok (.invokestatic 178, 3) := by decide +kernel
theorem dL_law_1814 : decode cL_law 1814 = .ok (.sipush (-1002), 3) := by decide +kernel
theorem dL_law_1817 : decode cL_law 1817 = .ok (.if_icmp .ne 165, 3) := by decide +kernel
theorem dL_law_1820 : decode cL_law 1820 = .ok (.aload_n 1, 1) := by decide +kernel
theorem dL_law_1821 : decode cL_law 1821 = .ok (.bipush 112, 2) := by decide +kernel
theorem dL_law_1823 : decode cL_law 1823 = .ok (.iload 5, 2) := by decide +kernel
theorem dL_law_1825 : decode cL_law 1825 = .ok (.iconst 0, 1) := by decide +kernel
theorem dL_law_1826 : decode cL_law 1826 = .ok (.invokestatic 178, 3) := by decide +kernel
theorem dL_law_1829 : decode cL_law 1829 = .ok (.sipush (-1001), 3) := by decide +kernel
theorem dL_law_1832 : decode cL_law 1832 = .ok (.if_icmp .ne 150, 3) := by decide +kernel
theorem dL_law_1835 : decode cL_law 1835 = .ok (.iload 5, 2) := by decide +kernel
theorem dL_law_1837 : decode cL_law 1837 = .ok (.ifCond .le 18, 3) := by decide +kernel
theorem dL_law_1840 : decode cL_law 1840 = .ok (.aload_n 1, 1) := by decide +kernel
theorem dL_law_1841 : decode cL_law 1841 = .ok (.bipush 112, 2) := by decide +kernel
theorem dL_law_1843 : decode cL_law 1843 = .ok (.iconst 0, 1) := by decide +kernel
theorem dL_law_1844 : decode cL_law 1844 = .ok (.bipush 100, 2) := by decide +kernel
theorem dL_law_1846 : decode cL_law 1846 = .ok (.invokestatic 178, 3) := by decide +kernel
theorem dL_law_1849 : decode cL_law 1849 = .ok (.sipush (-1002), 3) := by decide +kernel
theorem dL_law_1852 : decode cL_law 1852 = .ok (.if_icmp .ne 130, 3) := by decide +kernel
theorem dL_law_1855 : decode cL_law 1855 = .ok (.aload_n 1, 1) := by decide +kernel
theorem dL_law_1856 : decode cL_law 1856 = .ok (.bipush 115, 2) := by decide +kernel
theorem dL_law_1858 : decode cL_law 1858 = .ok (.iconst 0, 1) := by decide +kernel
theorem dL_law_1859 : decode cL_law 1859 = .ok (.invokestatic 261, 3) := by decide +kernel
theorem dL_law_1862 : decode cL_law 1862 = .ok (.sipush (-1002), 3) := by decide +kernel
theorem dL_law_1865 : decode cL_law 1865 = .ok (.if_icmp .ne 117, 3) := by decide +kernel
theorem dL_law_1868 : decode cL_law 1868 = .ok (.aload_n 1, 1) := by decide +kernel
theorem dL_law_1869 : decode cL_law 1869 = .ok (.bipush 115, 2) := by decide +kernel
theorem dL_law_1871 : decode cL_law 1871 = .ok (.sipush 501, 3) := by decide +kernel
theorem dL_law_1874 : decode cL_law 1874 = .ok (.invokestatic 261, 3) := by decide +kernel
theorem dL_law_1877 : decode cL_law 1877 = .ok (.sipush (-1002), 3) := by decide +kernel
theorem dL_law_1880 : decode cL_law 1880 = .ok (.if_icmp .ne 102, 3) := by decide +kernel
theorem dL_law_1883 : decode cL_law 1883 = .ok (.aload_n 1, 1) := by decide +kernel
theorem dL_law_1884 : decode cL_law 1884 = .ok (.bipush 98, 2) := by decide +kernel
theorem dL_law_1886 : decode cL_law 1886 = .ok (.bipush 16, 2) := by decide +kernel
theorem dL_law_1888 : decode cL_law 1888 = .ok (.invokestatic 261, 3) := by decide +kernel
theorem dL_law_1891 : decode cL_law 1891 = .ok (.sipush (-1002), 3) := by decide +kernel
theorem dL_law_1894 : decode cL_law 1894 = .ok (.if_icmp .ne 88, 3) := by decide +kernel
theorem dL_law_1897 : decode cL_law 1897 = .ok (.aload_n 1, 1) := by decide +kernel
theorem dL_law_1898 : decode cL_law 1898 = .ok (.bipush 111, 2) := by decide +kernel
theorem dL_law_1900 : decode cL_law 1900 = .ok (.sipush 1001, 3) := by decide +kernel
theorem dL_law_1903 : decode cL_law 1903 = .ok (.invokestatic 261, 3) := by decide +kernel
theorem dL_law_1906 : decode cL_law 1906 = .ok (.sipush (-1002), 3) := by decide +kernel
theorem dL_law_1909 : decode cL_law 1909 = .ok (.if_icmp .ne 73, 3) := by decide +kernel
theorem dL_law_1912 : decode cL_law 1912 = .ok (.aload_n 1, 1) := by decide +kernel
theorem dL_law_1913 : decode cL_law 1913 = .ok (.bipush 114, 2) := by decide +kernel
theorem dL_law_1915 : decode cL_law 1915 = .ok (.sipush 10000, 3) := by decide +kernel
theorem dL_law_1918 : decode cL_law 1918 = .ok (.invokestatic 261, 3) := by decide +kernel
theorem dL_law_1921 : decode cL_law 1921 = .ok (.sipush (-1002), 3) := by decide +kernel
theorem dL_law_1924 : decode cL_law 1924 = .ok (.if_icmp .ne 58, 3) := by decide +kernel
theorem dL_law_1927 : decode cL_law 1927 = .ok (.aload_n 1, 1) := by decide +kernel
theorem dL_law_1928 : decode cL_law 1928 = .ok (.bipush 100, 2) := by decide +kernel
theorem dL_law_1930 : decode cL_law 1930 = .ok (.iconst 0, 1) := by decide +kernel
theorem dL_law_1931 : decode cL_law 1931 = .ok (.invokestatic 261, 3) := by decide +kernel
theorem dL_law_1934 : decode cL_law 1934 = .ok (.sipush (-1002), 3) := by decide +kernel
theorem dL_law_1937 : decode cL_law 1937 = .ok (.if_icmp .ne 45, 3) := by decide +kernel
theorem dL_law_1940 : decode cL_law 1940 = .ok (.aload_n 1, 1) := by decide +kernel
theorem dL_law_1941 : decode cL_law 1941 = .ok (.bipush 100, 2) := by decide +kernel
theorem dL_law_1943 : decode cL_law 1943 = .ok (.bipush 100, 2) := by decide +kernel
theorem dL_law_1945 : decode cL_law 1945 = .ok (.invokestatic 261, 3) := by decide +kernel
theorem dL_law_1948 : decode cL_law 1948 = .ok (.sipush (-1002), 3) := by decide +kernel
theorem dL_law_1951 : decode cL_law 1951 = .ok (.if_icmp .ne 31, 3) := by decide +kernel
theorem dL_law_1954 : decode cL_law 1954 = .ok (.aload_n 1, 1) := by decide +kernel
theorem dL_law_1955 : decode cL_law 1955 = .ok (.bipush 116, 2) := by decide +kernel
theorem dL_law_1957 : decode cL_law 1957 = .ok (.bipush 123, 2) := by decide +kernel
theorem dL_law_1959 : decode cL_law 1959 = .ok (.invokestatic 261, 3) := by decide +kernel
theorem dL_law_1962 : decode cL_law 1962 = .ok (.sipush (-1002), 3) := by decide +kernel
theorem dL_law_1965 : decode cL_law 1965 = .ok (.if_icmp .ne 17, 3) := by decide +kernel
theorem dL_law_1968 : decode cL_law 1968 = .ok (.aload_n 1, 1) := by decide +kernel
theorem dL_law_1969 : decode cL_law 1969 = .ok (.bipush 116, 2) := by decide +kernel
theorem dL_law_1971 : decode cL_law 1971 = .ok (.bipush 90, 2) := by decide +kernel
theorem dL_law_1973 : decode cL_law 1973 = .ok (.invokestatic 261, 3) := by decide +kernel
theorem dL_law_1976 : decode cL_law 1976 = .ok (.sipush (-1002), 3) := by decide +kernel
theorem dL_law_1979 : decode cL_law 1979 = .ok (.if_icmp .eq 5, 3) := by decide +kernel
theorem dL_law_1982 : decode cL_law 1982 = .ok (.iconst 0, 1) := by decide +kernel
theorem dL_law_1983 : decode cL_law 1983 = .ok (.ireturn, 1) := by decide +kernel
theorem dL_law_1984 : decode cL_law 1984 = .ok (.aload_n 1, 1) := by decide +kernel
theorem dL_law_1985 : decode cL_law 1985 = .ok (.iload 7, 2) := by decide +kernel
theorem dL_law_1987 : decode cL_law 1987 = .ok (.iconst (-1), 1) := by decide +kernel
theorem dL_law_1988 : decode cL_law 1988 = .ok (.invokestatic 223, 3) := by decide +kernel
theorem dL_law_1991 : decode cL_law 1991 = .ok (.sipush (-1001), 3) := by decide +kernel
theorem dL_law_1994 : decode cL_law 1994 = .ok (.if_icmp .ne 151, 3) := by decide +kernel
theorem dL_law_1997 : decode cL_law 1997 = .ok (.aload_n 1, 1) := by decide +kernel
theorem dL_law_1998 : decode cL_law 1998 = .ok (.iconst (-1), 1) := by decide +kernel
theorem dL_law_1999 : decode cL_law 1999 = .ok (.bipush (-2), 2) := by decide +kernel
theorem dL_law_2001 : decode cL_law 2001 = .ok (.invokestatic 223, 3) := by decide +kernel
theorem dL_law_2004 : decode cL_law 2004 = .ok (.sipush (-1001), 3) := by decide +kernel
theorem dL_law_2007 : decode cL_law 2007 = .ok (.if_icmp .ne 138, 3) := by decide +kernel
theorem dL_law_2010 : decode cL_law 2010 = .ok (.aload_n 1, 1) := by decide +kernel
theorem dL_law_2011 : decode cL_law 2011 = .ok (.iload 7, 2) := by decide +kernel
theorem dL_law_2013 : decode cL_law 2013 = .ok (.iconst 0, 1) := by decide +kernel
theorem dL_law_2014 : decode cL_law 2014 = .ok (.invokestatic 223, 3) := by decide +kernel
theorem dL_law_2017 : decode cL_law 2017 = .ok (.sipush (-1001), 3) := by decide +kernel
theorem dL_law_2020 : decode cL_law 2020 = .ok (.if_icmp .ne 125, 3) := by decide +kernel
theorem dL_law_2023 : decode cL_law 2023 = .ok (.iload 7, 2) := by decide +kernel
theorem dL_law_2025 : decode cL_law 2025 = .ok (.ifCond .eq 29, 3) := by decide +kernel
theorem dL_law_2028 : decode cL_law 2028 = .ok (.aload_n 1, 1) := by decide +kernel
theorem dL_law_2029 : decode cL_law 2029 = .ok (.iconst 0, 1) := by decide +kernel
theorem dL_law_2030 : decode cL_law 2030 = .ok (.bipush 6, 2) := by decide +kernel
theorem dL_law_2032 : decode cL_law 2032 = .ok (.invokestatic 223, 3) := by decide +kernel
theorem dL_law_2035 : decode cL_law 2035 = .ok (.sipush (-1005), 3) := by decide +kernel
theorem dL_law_2038 : decode cL_law 2038 = .ok (.if_icmp .ne 107, 3) := by decide +kernel
theorem dL_law_2041 : decode cL_law 2041 = .ok (.aload_n 1, 1) := by decide +kernel
theorem dL_law_2042 : decode cL_law 2042 = .ok (.iconst 0, 1) := by decide +kernel
theorem dL_law_2043 : decode cL_law 2043 = .ok (.bipush (-3), 2) := by decide +kernel
theorem dL_law_2045 : decode cL_law 2045 = .ok (.invokestatic 223, 3) := by decide +kernel
theorem dL_law_2048 : decode cL_law 2048 = .ok (.sipush (-1005), 3) := by decide +kernel
theorem dL_law_2051 : decode cL_law 2051 = .ok (.if_icmp .ne 94, 3) := by decide +kernel
theorem dL_law_2054 : decode cL_law 2054 = .ok (.aload_n 1, 1) := by decide +kernel
theorem dL_law_2055 : decode cL_law 2055 = .ok (.iload 7, 2) := by decide +kernel
theorem dL_law_2057 : decode cL_law 2057 = .ok (.iconst 0, 1) := by decide +kernel
theorem dL_law_2058 : decode cL_law 2058 = .ok (.invokestatic 208, 3) := by decide +kernel
theorem dL_law_2061 : decode cL_law 2061 = .ok (.ldc 149, 2) := by decide +kernel
theorem dL_law_2063 : decode cL_law 2063 = .ok (.fcmp .l, 1) := by decide +kernel
theorem dL_law_2064 : decode cL_law 2064 = .ok (.ifCond .ne 81, 3) := by decide +kernel
theorem dL_law_2067 : decode cL_law 2067 = .ok (.aload_n 1, 1) := by decide +kernel
theorem dL_law_2068 : decode cL_law 2068 = .ok (.iconst 0, 1) := by decide +kernel
theorem dL_law_2069 : decode cL_law 2069 = .ok (.iload 7, 2) := by decide +kernel
theorem dL_law_2071 : decode cL_law 2071 = .ok (.invokestatic 208, 3) := by decide +kernel
theorem dL_law_2074 : decode cL_law 2074 = .ok (.ldc 149, 2) := by decide +kernel
theorem dL_law_2076 : decode cL_law 2076 = .ok (.fcmp .l, 1) := by decide +kernel
theorem dL_law_2077 : decode cL_law 2077 = .ok (.ifCond .ne 68, 3) := by decide +kernel
theorem dL_law_2080 : decode cL_law 2080 = .ok (.aload_n 1, 1) := by decide +kernel
theorem dL_law_2081 : decode cL_law 2081 = .ok (.iload 5, 2) := by decide +kernel
theorem dL_law_2083 : decode cL_law 2083 = .ok (.bipush (-9), 2) := by decide +kernel
theorem dL_law_2085 : decode cL_law 2085 = .ok (.invokestatic 208, 3) := by decide +kernel
theorem dL_law_2088 : decode cL_law 2088 = .ok (.ldc 149, 2) := by decide +kernel
theorem dL_law_2090 : decode cL_law 2090 = .ok (.fcmp .l, 1) := by decide +kernel
theorem dL_law_2091 : decode cL_law 2091 = .ok (.ifCond .ne 54, 3) := by decide +kernel
theorem dL_law_2094 : decode cL_law 2094 = .ok (.aload_n 1, 1) := by decide +kernel
theorem dL_law_2095 : decode cL_law 2095 = .ok (.iload 5, 2) := by decide +kernel
theorem dL_law_2097 : decode cL_law 2097 = .ok (.invokestatic 226, 3) := by decide +kernel
theorem dL_law_2100 : decode cL_law 2100 = .ok (.ldc2_w 154, 3) := by decide +kernel
theorem dL_law_2103 : decode cL_law 2103 = .ok (.dcmp .l, 1) := by decide +kernel
theorem dL_law_2104 : decode cL_law 2104 = .ok (.ifCond .ne 41, 3) := by decide +kernel
theorem dL_law_2107 : decode cL_law 2107 = .ok (.aload_n 1, 1) := by decide +kernel
theorem dL_law_2108 : decode cL_law 2108 = .ok (.iconst (-1), 1) := by decide +kernel
theorem dL_law_2109 : decode cL_law 2109 = .ok (.invokestatic 205, 3) := by decide +kernel
theorem dL_law_2112 : decode cL_law 2112 = .ok (.ldc2_w 164, 3) := by decide +kernel
theorem dL_law_2115 : decode cL_law 2115 = .ok (.lcmp, 1) := by decide +kernel
theorem dL_law_2116 : decode cL_law 2116 = .ok (.ifCond .ne 29, 3) := by decide +kernel
theorem dL_law_2119 : decode cL_law 2119 = .ok (.aload_n 1, 1) := by decide +kernel
theorem dL_law_2120 : decode cL_law 2120 = .ok (.bipush (-9), 2) := by decide +kernel
theorem dL_law_2122 : decode cL_law 2122 = .ok (.iconst (-1), 1) := by decide +kernel
theorem dL_law_2123 : decode cL_law 2123 = .ok (.invokestatic 223, 3) := by decide +kernel
theorem dL_law_2126 : decode cL_law 2126 = .ok (.sipush (-1005), 3) := by decide +kernel
theorem dL_law_2129 : decode cL_law 2129 = .ok (.if_icmp .ne 16, 3) := by decide +kernel
theorem dL_law_2132 : decode cL_law 2132 = .ok (.aload_n 1, 1) := by decide +kernel
theorem dL_law_2133 : decode cL_law 2133 = .ok (.invokestatic 249, 3) := by decide +kernel
theorem dL_law_2136 : decode cL_law 2136 = .ok (.lload_n 3, 1) := by decide +kernel
theorem dL_law_2137 : decode cL_law 2137 = .ok (.lcmp, 1) := by decide +kernel
theorem dL_law_2138 : decode cL_law 2138 = .ok (.ifCond .ne 7, 3) := by decide +kernel
theorem dL_law_2141 : decode cL_law 2141 = .ok (.iconst 1, 1) := by decide +kernel
theorem dL_law_2142 : decode cL_law 2142 = .ok (.goto 4, 3) := by decide +kernel
theorem dL_law_2145 : decode cL_law 2145 = .ok (.iconst 0, 1) := by decide +kernel
theorem dL_law_2146 : decode cL_law 2146 = .ok (.ireturn, 1) := by decide +kernel
