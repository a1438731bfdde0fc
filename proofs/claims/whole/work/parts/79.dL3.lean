theorem dL_law_1863 : decode cL_law 1863 = .ok (.iconst 0, 1) := by decide +kernel
theorem dL_law_1864 : decode cL_law 1864 = .ok (.ireturn, 1) := by decide +kernel
theorem dL_law_1865 : decode cL_law 1865 = .ok (.aload_n 1, 1) := by decide +kernel
theorem dL_law_1866 : decode cL_law 1866 = .ok (.invokevirtual 260, 3) := by decide +kernel
theorem dL_law_1869 : decode cL_law 1869 = .ok (.aload_n 2, 1) := by decide +kernel
theorem dL_law_1870 : decode cL_law 1870 = .ok (.invokevirtual 263, 3) := by decide +kernel
theorem dL_law_1873 : decode cL_law 1873 = .ok (.if_icmp .eq 812, 3) := by decide +kernel
theorem dL_law_1876 : decode cL_law 1876 = .ok (.iconst 0, 1) := by decide +kernel
theorem dL_law_1877 : decode cL_law 1877 = .ok (.ireturn, 1) := by decide +kernel
theorem dL_law_1878 : decode cL_law 1878 = .ok (.aload_n 1, 1) := by decide +kernel
theorem dL_law_1879 : decode cL_law 1879 = .ok (.invokevirtual 264, 3) := by decide +kernel
theorem dL_law_1882 : decode cL_law 1882 = .ok (.aload_n 2, 1) := by decide +kernel
theorem dL_law_1883 : decode cL_law 1883 = .ok (.invokevirtual 267, 3) := by decide +kernel
theorem dL_law_1886 : decode cL_law 1886 = .ok (.if_icmp .eq 799, 3) := by decide +kernel
theorem dL_law_1889 : decode cL_law 1889 = .ok (.iconst 0, 1) := by decide +kernel
theorem dL_law_1890 : decode cL_law 1890 = .ok (.ireturn, 1) := by decide +kernel
theorem dL_law_1891 : decode cL_law 1891 = .ok (.aload_n 1, 1) := by decide +kernel
theorem dL_law_1892 : decode cL_law 1892 = .ok (.invokevirtual 268, 3) := by decide +kernel
theorem dL_law_1895 : decode cL_law 1895 = .ok (.aload_n 2, 1) := by decide +kernel
theorem dL_law_1896 : decode cL_law 1896 = .ok (.invokevirtual 271, 3) := by decide +kernel
theorem dL_law_1899 : decode cL_law 1899 = .ok (.if_icmp .eq 786, 3) := by decide +kernel
theorem dL_law_1902 : decode cL_law 1902 = .ok (.iconst 0, 1) := by decide +kernel
theorem dL_law_1903 : decode cL_law 1903 = .ok (.ireturn, 1) := by decide +kernel
theorem dL_law_1904 : decode cL_law 1904 = .ok (.aload_n 1, 1) := by decide +kernel
theorem dL_law_1905 : decode cL_law 1905 = .ok (.invokevirtual 272, 3) := by decide +kernel
theorem dL_law_1908 : decode cL_law 1908 = .ok (.dstore 5, 2) := by decide +kernel
theorem dL_law_1910 : decode cL_law 1910 = .ok (.aload_n 2, 1) := by decide +kernel
theorem dL_law_1911 : decode cL_law 1911 = .ok (.invokevirtual 276, 3) := by decide +kernel
theorem dL_law_1914 : decode cL_law 1914 = .ok (.dstore 7, 2) := by decide +kernel
theorem dL_law_1916 : decode cL_law 1916 = .ok (.dload 5, 2) := by decide +kernel
theorem dL_law_1918 : decode cL_law 1918 = .ok (.dload 7, 2) := by decide +kernel
theorem dL_law_1920 : decode cL_law 1920 = .ok (.dcmp .l, 1) := by decide +kernel
theorem dL_law_1921 : decode cL_law 1921 = .ok (.ifCond .eq 21, 3) := by decide +kernel
theorem dL_law_1924 : decode cL_law 1924 = .ok (.dload 5, 2) := by decide +kernel
theorem dL_law_1926 : decode cL_law 1926 = .ok (.dload 5, 2) := by decide +kernel
theorem dL_law_1928 : decode cL_law 1928 = .ok (.dcmp .l, 1) := by decide +kernel
theorem dL_law_1929 : decode cL_law 1929 = .ok (.ifCond .eq 11, 3) := by decide +kernel
theorem dL_law_1932 : decode cL_law 1932 = .ok (.dload 7, 2) := by decide +kernel
theorem dL_law_1934 : decode cL_law 1934 = .ok (.dload 7, 2) := by decide +kernel
theorem dL_law_1936 : decode cL_law 1936 = .ok (.dcmp .l, 1) := by decide +kernel
theorem dL_law_1937 : decode cL_law 1937 = .ok (.ifCond .ne 5, 3) := by decide +kernel
theorem dL_law_1940 : decode cL_law 1940 = .ok (.iconst 0, 1) := by decide +kernel
theorem dL_law_1941 : decode cL_law 1941 = .ok (.ireturn, 1) := by decide +kernel
theorem dL_law_1942 : decode cL_law 1942 = .ok (.goto 743, 3) := by decide +kernel
theorem dL_law_1945 : decode cL_law 1945 = .ok (.aload_n 1, 1) := by decide +kernel
theorem dL_law_1946 : decode cL_law 1946 = .ok (.invokevirtual 277, 3) := by decide +kernel
theorem dL_law_1949 : decode cL_law 1949 = .ok (.f2d, 1) := by decide +kernel
theorem dL_law_1950 : decode cL_law 1950 = .ok (.dstore 5, 2) := by decide +kernel
theorem dL_law_1952 : decode cL_law 1952 = .ok (.aload_n 2, 1) := by decide +kernel
theorem dL_law_1953 : decode cL_law 1953 = .ok (.invokevirtual 281, 3) := by decide +kernel
theorem dL_law_1956 : decode cL_law 1956 = .ok (.f2d, 1) := by decide +kernel
theorem dL_law_1957 : decode cL_law 1957 = .ok (.dstore 7, 2) := by decide +kernel
theorem dL_law_1959 : decode cL_law 1959 = .ok (.dload 5, 2) := by decide +kernel
theorem dL_law_1961 : decode cL_law 1961 = .ok (.dload 7, 2) := by decide +kernel
theorem dL_law_1963 : decode cL_law 1963 = .ok (.dcmp .l, 1) := by decide +kernel
theorem dL_law_1964 : decode cL_law 1964 = .ok (.ifCond .eq 21, 3) := by decide +kernel
theorem dL_law_1967 : decode cL_law 1967 = .ok (.dload 5, 2) := by decide +kernel
theorem dL_law_1969 : decode cL_law 1969 = .ok (.dload 5, 2) := by decide +kernel
theorem dL_law_1971 : decode cL_law 1971 = .ok (.dcmp .l, 1) := by decide +kernel
theorem dL_law_1972 : decode cL_law 1972 = .ok (.ifCond .eq 11, 3) := by decide +kernel
theorem dL_law_1975 : decode cL_law 1975 = .ok (.dload 7, 2) := by decide +kernel
theorem dL_law_1977 : decode cL_law 1977 = .ok (.dload 7, 2) := by decide +kernel
theorem dL_law_1979 : decode cL_law 1979 = .ok (.dcmp .l, 1) := by decide +kernel
theorem dL_law_1980 : decode cL_law 1980 = .ok (.ifCond .ne 5, 3) := by decide +kernel
theorem dL_law_1983 : decode cL_law 1983 = .ok (.iconst 0, 1) := by decide +kernel
theorem dL_law_1984 : decode cL_law 1984 = .ok (.ireturn, 1) := by decide +kernel
theorem dL_law_1985 : decode cL_law 1985 = .ok (.goto 700, 3) := by decide +kernel
theorem dL_law_1988 : decode cL_law 1988 = .ok (.aload_n 1, 1) := by decide +kernel
theorem dL_law_1989 : decode cL_law 1989 = .ok (.aload_n 0, 1) := by decide +kernel
theorem dL_law_1990 : decode cL_law 1990 = .ok (.iload 4, 2) := by decide +kernel
theorem dL_law_1992 : decode cL_law 1992 = .ok (.iconst 1, 1) := by decide +kernel
theorem dL_law_1993 : decode cL_law 1993 = .ok (.iadd, 1) := by decide +kernel
theorem dL_law_1994 : decode cL_law 1994 = .ok (.iaload, 1) := by decide +kernel
theorem dL_law_1995 : decode cL_law 1995 = .ok (.aload_n 3, 1) := by decide +kernel
theorem dL_law_1996 : decode cL_law 1996 = .ok (.invokestatic 282, 3) := by decide +kernel
theorem dL_law_1999 : decode cL_law 1999 = .ok (.istore 5, 2) := by decide +kernel
theorem dL_law_2001 : decode cL_law 2001 = .ok (.aload_n 2, 1) := by decide +kernel
theorem dL_law_2002 : decode cL_law 2002 = .ok (.aload_n 0, 1) := by decide +kernel
theorem dL_law_2003 : decode cL_law 2003 = .ok (.iload 4, 2) := by decide +kernel
theorem dL_law_2005 : decode cL_law 2005 = .ok (.iconst 1, 1) := by decide +kernel
theorem dL_law_2006 : decode cL_law 2006 = .ok (.iadd, 1) := by decide +kernel
theorem dL_law_2007 : decode cL_law 2007 = .ok (.iaload, 1) := by decide +kernel
theorem dL_law_2008 : decode cL_law 2008 = .ok (.invokevirtual 284, 3) := by decide +kernel
theorem dL_law_2011 : decode cL_law 2011 = .ok (.istore 6, 2) := by decide +kernel
theorem dL_law_2013 : decode cL_law 2013 = .ok (.aload_n 2, 1) := by decide +kernel
theorem dL_law_2014 : decode cL_law 2014 = .ok (.invokevirtual 138, 3) := by decide +kernel
theorem dL_law_2017 : decode cL_law 2017 = .ok (.iload 5, 2) := by decide +kernel
theorem dL_law_2019 : decode cL_law 2019 = .ok (.if_icmp .eq 5, 3) := by decide +kernel
theorem dL_law_2022 : decode cL_law 2022 = .ok (.iconst 0, 1) := by decide +kernel
theorem dL_law_2023 : decode cL_law 2023 = .ok (.ireturn, 1) := by decide +kernel
theorem dL_law_2024 : decode cL_law 2024 = .ok (.iload 5, 2) := by decide +kernel
theorem dL_law_2026 : decode cL_law 2026 = .ok (.ifCond .ne 15, 3) := by decide +kernel
theorem dL_law_2029 : decode cL_law 2029 = .ok (.aload_n 3, 1) := by decide +kernel
theorem dL_law_2030 : decode cL_law 2030 = .ok (.iconst 0, 1) := by decide +kernel
theorem dL_law_2031 : decode cL_law 2031 = .ok (.laload, 1) := by decide +kernel
theorem dL_law_2032 : decode cL_law 2032 = .ok (.iload 6, 2) := by decide +kernel
theorem dL_law_2034 : decode cL_law 2034 = .ok (.i2l, 1) := by decide +kernel
theorem dL_law_2035 : decode cL_law 2035 = .ok (.lcmp, 1) := by decide +kernel
theorem dL_law_2036 : decode cL_law 2036 = .ok (.ifCond .eq 5, 3) := by decide +kernel
theorem dL_law_2039 : decode cL_law 2039 = .ok (.iconst 0, 1) := by decide +kernel
theorem dL_law_2040 : decode cL_law 2040 = .ok (.ireturn, 1) := by decide +kernel
theorem dL_law_2041 : decode cL_law 2041 = .ok (.goto 644, 3) := by decide +kernel
theorem dL_law_2044 : decode cL_law 2044 = .ok (.aload_n 1, 1) := by decide +kernel
theorem dL_law_2045 : decode cL_law 2045 = .ok (.aload_n 0, 1) := by decide +kernel
theorem dL_law_2046 : decode cL_law 2046 = .ok (.iload 4, 2) := by decide +kernel
theorem dL_law_2048 : decode cL_law 2048 = .ok (.iconst 1, 1) := by decide +kernel
theorem dL_law_2049 : decode cL_law 2049 = .ok (.iadd, 1) := by decide +kernel
theorem dL_law_2050 : decode cL_law 2050 = .ok (.iaload, 1) := by decide +kernel
theorem dL_law_2051 : decode cL_law 2051 = .ok (.aload_n 3, 1) := by decide +kernel
theorem dL_law_2052 : decode cL_law 2052 = .ok (.invokestatic 285, 3) := by decide +kernel
theorem dL_law_2055 : decode cL_law 2055 = .ok (.istore 5, 2) := by decide +kernel
theorem dL_law_2057 : decode cL_law 2057 = .ok (.aload_n 2, 1) := by decide +kernel
theorem dL_law_2058 : decode cL_law 2058 = .ok (.aload_n 0, 1) := by decide +kernel
theorem dL_law_2059 : decode cL_law 2059 = .ok (.iload 4, 2) := by decide +kernel
theorem dL_law_2061 : decode cL_law 2061 = .ok (.iconst 1, 1) := by decide +kernel
theorem dL_law_2062 : decode cL_law 2062 = .ok (.iadd, 1) := by decide +kernel
theorem dL_law_2063 : decode cL_law 2063 = .ok (.iaload, 1) := by decide +kernel
theorem dL_law_2064 : decode cL_law 2064 = .ok (.invokevirtual 287, 3) := by decide +kernel
theorem dL_law_2067 : decode cL_law 2067 = .ok (.istore 6, 2) := by decide +kernel
theorem dL_law_2069 : decode cL_law 2069 = .ok (.aload_n 2, 1) := by decide +kernel
theorem dL_law_2070 : decode cL_law 2070 = .ok (.invokevirtual 138, 3) := by decide +kernel
theorem dL_law_2073 : decode cL_law 2073 = .ok (.iload 5, 2) := by decide +kernel
theorem dL_law_2075 : decode cL_law 2075 = .ok (.if_icmp .eq 5, 3) := by decide +kernel
theorem dL_law_2078 : decode cL_law 2078 = .ok (.iconst 0, 1) := by decide +kernel
theorem dL_law_2079 : decode cL_law 2079 = .ok (.ireturn, 1) := by decide +kernel
theorem dL_law_2080 : decode cL_law 2080 = .ok (.iload 5, 2) := by decide +kernel
theorem dL_law_2082 : decode cL_law 2082 = .ok (.ifCond .ne 15, 3) := by decide +kernel
theorem dL_law_2085 : decode cL_law 2085 = .ok (.aload_n 3, 1) := by decide +kernel
theorem dL_law_2086 : decode cL_law 2086 = .ok (.iconst 0, 1) := by decide +kernel
theorem dL_law_2087 : decode cL_law 2087 = .ok (.laload, 1) := by decide +kernel
theorem dL_law_2088 : decode cL_law 2088 = .ok (.iload 6, 2) := by decide +kernel
theorem dL_law_2090 : decode cL_law 2090 = .ok (.i2l, 1) := by decide +kernel
theorem dL_law_2091 : decode cL_law 2091 = .ok (.lcmp, 1) := by decide +kernel
theorem dL_law_2092 : decode cL_law 2092 = .ok (.ifCond .eq 5, 3) := by decide +kernel
theorem dL_law_2095 : decode cL_law 2095 = .ok (.iconst 0, 1) := by decide +kernel
theorem dL_law_2096 : decode cL_law 2096 = .ok (.ireturn, 1) := by decide +kernel
theorem dL_law_2097 : decode cL_law 2097 = .ok (.goto 588, 3) := by decide +kernel
theorem dL_law_2100 : decode cL_law 2100 = .ok (.aload_n 1, 1) := by decide +kernel
theorem dL_law_2101 : decode cL_law 2101 = .ok (.aload_n 0, 1) := by decide +kernel
theorem dL_law_2102 : decode cL_law 2102 = .ok (.iload 4, 2) := by decide +kernel
theorem dL_law_2104 : decode cL_law 2104 = .ok (.iconst 1, 1) := by decide +kernel
theorem dL_law_2105 : decode cL_law 2105 = .ok (.iadd, 1) := by decide +kernel
theorem dL_law_2106 : decode cL_law 2106 = .ok (.iaload, 1) := by decide +kernel
theorem dL_law_2107 : decode cL_law 2107 = .ok (.aload_n 3, 1) := by decide +kernel
theorem dL_law_2108 : decode cL_law 2108 = .ok (.invokestatic 288, 3) := by decide +kernel
theorem dL_law_2111 : decode cL_law 2111 = .ok (.istore 5, 2) := by decide +kernel
theorem dL_law_2113 : decode cL_law 2113 = .ok (.aload_n 2, 1) := by decide +kernel
theorem dL_law_2114 : decode cL_law 2114 = .ok (.aload_n 0, 1) := by decide +kernel
theorem dL_law_2115 : decode cL_law 2115 = .ok (.iload 4, 2) := by decide +kernel
theorem dL_law_2117 : decode cL_law 2117 = .ok (.iconst 1, 1) := by decide +kernel
theorem dL_law_2118 : decode cL_law 2118 = .ok (.iadd, 1) := by decide +kernel
theorem dL_law_2119 : decode cL_law 2119 = .ok (.iaload, 1) := by decide +kernel
theorem dL_law_2120 : decode cL_law 2120 = .ok (.invokevirtual 290, 3) := by decide +kernel
theorem dL_law_2123 : decode cL_law 2123 = .ok (.istore 6, 2) := by decide +kernel
theorem dL_law_2125 : decode cL_law 2125 = .ok (.aload_n 2, 1) := by decide +kernel
theorem dL_law_2126 : decode cL_law 2126 = .ok (.invokevirtual 138, 3) := by decide +kernel
theorem dL_law_2129 : decode cL_law 2129 = .ok (.iload 5, 2) := by decide +kernel
theorem dL_law_2131 : decode cL_law 2131 = .ok (.if_icmp .eq 5, 3) := by decide +kernel
theorem dL_law_2134 : decode cL_law 2134 = .ok (.iconst 0, 1) := by decide +kernel
theorem dL_law_2135 : decode cL_law 2135 = .ok (.ireturn, 1) := by decide +kernel
theorem dL_law_2136 : decode cL_law 2136 = .ok (.iload 5, 2) := by decide +kernel
theorem dL_law_2138 : decode cL_law 2138 = .ok (.ifCond .ne 15, 3) := by decide +kernel
theorem dL_law_2141 : decode cL_law 2141 = .ok (.aload_n 3, 1) := by decide +kernel
theorem dL_law_2142 : decode cL_law 2142 = .ok (.iconst 0, 1) := by decide +kernel
theorem dL_law_2143 : decode cL_law 2143 = .ok (.laload, 1) := by decide +kernel
theorem dL_law_2144 : decode cL_law 2144 = .ok (.iload 6, 2) := by decide +kernel
theorem dL_law_2146 : decode cL_law 2146 = .ok (.i2l, 1) := by decide +kernel
theorem dL_law_2147 : decode cL_law 2147 = .ok (.lcmp, 1) := by decide +kernel
theorem dL_law_2148 : decode cL_law 2148 = .ok (.ifCond .eq 5, 3) := by decide +kernel
theorem dL_law_2151 : decode cL_law 2151 = .ok (.iconst 0, 1) := by decide +kernel
theorem dL_law_2152 : decode cL_law 2152 = .ok (.ireturn, 1) := by decide +kernel
theorem dL_law_2153 : decode cL_law 2153 = .ok (.goto 532, 3) := by decide +kernel
theorem dL_law_2156 : decode cL_law 2156 = .ok (.aload_n 1, 1) := by decide +kernel
theorem dL_law_2157 : decode cL_law 2157 = .ok (.aload_n 0, 1) := by decide +kernel
theorem dL_law_2158 : decode cL_law 2158 = .ok (.iload 4, 2) := by decide +kernel
theorem dL_law_2160 : decode cL_law 2160 = .ok (.iconst 1, 1) := by decide +kernel
theorem dL_law_2161 : decode cL_law 2161 = .ok (.iadd, 1) := by decide +kernel
theorem dL_law_2162 : decode cL_law 2162 = .ok (.iaload, 1) := by decide +kernel
theorem dL_law_2163 : decode cL_law 2163 = .ok (.aload_n 3, 1) := by decide +kernel
theorem dL_law_2164 : decode cL_law 2164 = .ok (.invokestatic 291, 3) := by decide +kernel
theorem dL_law_2167 : decode cL_law 2167 = .ok (.istore 5, 2) := by decide +kernel
theorem dL_law_2169 : decode cL_law 2169 = .ok (.aload_n 2, 1) := by decide +kernel
theorem dL_law_2170 : decode cL_law 2170 = .ok (.aload_n 0, 1) := by decide +kernel
theorem dL_law_2171 : decode cL_law 2171 = .ok (.iload 4, 2) := by decide +kernel
theorem dL_law_2173 : decode cL_law 2173 = .ok (.iconst 1, 1) := by decide +kernel
theorem dL_law_2174 : decode cL_law 2174 = .ok (.iadd, 1) := by decide +kernel
theorem dL_law_2175 : decode cL_law 2175 = .ok (.iaload, 1) := by decide +kernel
theorem dL_law_2176 : decode cL_law 2176 = .ok (.invokevirtual 293, 3) := by decide +kernel
theorem dL_law_2179 : decode cL_law 2179 = .ok (.istore 6, 2) := by decide +kernel
theorem dL_law_2181 : decode cL_law 2181 = .ok (.aload_n 2, 1) := by decide +kernel
theorem dL_law_2182 : decode cL_law 2182 = .ok (.invokevirtual 138, 3) := by decide +kernel
theorem dL_law_2185 : decode cL_law 2185 = .ok (.iload 5, 2) := by decide +kernel
theorem dL_law_2187 : decode cL_law 2187 = .ok (.if_icmp .eq 5, 3) := by decide +kernel
theorem dL_law_2190 : decode cL_law 2190 = .ok (.iconst 0, 1) := by decide +kernel
theorem dL_law_2191 : decode cL_law 2191 = .ok (.ireturn, 1) := by decide +kernel
theorem dL_law_2192 : decode cL_law 2192 = .ok (.iload 5, 2) := by decide +kernel
theorem dL_law_2194 : decode cL_law 2194 = .ok (.ifCond .ne 15, 3) := by decide +kernel
theorem dL_law_2197 : decode cL_law 2197 = .ok (.aload_n 3, 1) := by decide +kernel
theorem dL_law_2198 : decode cL_law 2198 = .ok (.iconst 0, 1) := by decide +kernel
theorem dL_law_2199 : decode cL_law 2199 = .ok (.laload, 1) := by decide +kernel
theorem dL_law_2200 : decode cL_law 2200 = .ok (.iload 6, 2) := by decide +kernel
theorem dL_law_2202 : decode cL_law 2202 = .ok (.i2l, 1) := by decide +kernel
theorem dL_law_2203 : decode cL_law 2203 = .ok (.lcmp, 1) := by decide +kernel
theorem dL_law_2204 : decode cL_law 2204 = .ok (.ifCond .eq 5, 3) := by decide +kernel
theorem dL_law_2207 : decode cL_law 2207 = .ok (.iconst 0, 1) := by decide +kernel
theorem dL_law_2208 : decode cL_law 2208 = .ok (.ireturn, 1) := by decide +kernel
theorem dL_law_2209 : decode cL_law 2209 = .ok (.goto 476, 3) := by decide +kernel
theorem dL_law_2212 : decode cL_law 2212 = .ok (.aload_n 1, 1) := by decide +kernel
theorem dL_law_2213 : decode cL_law 2213 = .ok (.aload_n 0, 1) := by decide +kernel
theorem dL_law_2214 : decode cL_law 2214 = .ok (.iload 4, 2) := by decide +kernel
theorem dL_law_2216 : decode cL_law 2216 = .ok (.iconst 1, 1) := by decide +kernel
theorem dL_law_2217 : decode cL_law 2217 = .ok (.iadd, 1) := by decide +kernel
theorem dL_law_2218 : decode cL_law 2218 = .ok (.iaload, 1) := by decide +kernel
theorem dL_law_2219 : decode cL_law 2219 = .ok (.aload_n 3, 1) := by decide +kernel
theorem dL_law_2220 : decode cL_law 2220 = .ok (.invokestatic 294, 3) := by decide +kernel
theorem dL_law_2223 : decode cL_law 2223 = .ok (.istore 5, 2) := by decide +kernel
theorem dL_law_2225 : decode cL_law 2225 = .ok (.aload_n 2, 1) := by decide +kernel
theorem dL_law_2226 : decode cL_law 2226 = .ok (.aload_n 0, 1) := by decide +kernel
theorem dL_law_2227 : decode cL_law 2227 = .ok (.iload 4, 2) := by decide +kernel
theorem dL_law_2229 : decode cL_law 2229 = .ok (.iconst 1, 1) := by decide +kernel
theorem dL_law_2230 : decode cL_law 2230 = .ok (.iadd, 1) := by decide +kernel
theorem dL_law_2231 : decode cL_law 2231 = .ok (.iaload, 1) := by decide +kernel
theorem dL_law_2232 : decode cL_law 2232 = .ok (.invokevirtual 296, 3) := by decide +kernel
theorem dL_law_2235 : decode cL_law 2235 = .ok (.istore 6, 2) := by decide +kernel
theorem dL_law_2237 : decode cL_law 2237 = .ok (.aload_n 2, 1) := by decide +kernel
theorem dL_law_2238 : decode cL_law 2238 = .ok (.invokevirtual 138, 3) := by decide +kernel
theorem dL_law_2241 : decode cL_law 2241 = .ok (.iload 5, 2) := by decide +kernel
theorem dL_law_2243 : decode cL_law 2243 = .ok (.if_icmp .eq 5, 3) := by decide +kernel
theorem dL_law_2246 : decode cL_law 2246 = .ok (.iconst 0, 1) := by decide +kernel
theorem dL_law_2247 : decode cL_law 2247 = .ok (.ireturn, 1) := by decide +kernel
theorem dL_law_2248 : decode cL_law 2248 = .ok (.iload 5, 2) := by decide +kernel
theorem dL_law_2250 : decode cL_law 2250 = .ok (.ifCond .ne 15, 3) := by decide +kernel
theorem dL_law_2253 : decode cL_law 2253 = .ok (.aload_n 3, 1) := by decide +kernel
theorem dL_law_2254 : decode cL_law 2254 = .ok (.iconst 0, 1) := by decide +kernel
theorem dL_law_2255 : decode cL_law 2255 = .ok (.laload, 1) := by decide +kernel
theorem dL_law_2256 : decode cL_law 2256 = .ok (.iload 6, 2) := by decide +kernel
theorem dL_law_2258 : decode cL_law 2258 = .ok (.i2l, 1) := by decide +kernel
theorem dL_law_2259 : decode cL_law 2259 = .ok (.lcmp, 1) := by decide +kernel
theorem dL_law_2260 : decode cL_law 2260 = .ok (.ifCond .eq 5, 3) := by decide +kernel
theorem dL_law_2263 : decode cL_law 2263 = .ok (.iconst 0, 1) := by decide +kernel
theorem dL_law_2264 : decode cL_law 2264 = .ok (.ireturn, 1) := by decide +kernel
theorem dL_law_2265 : decode cL_law 2265 = .ok (.goto 420, 3) := by decide +kernel
theorem dL_law_2268 : decode cL_law 2268 = .ok (.aload_n 1, 1) := by decide +kernel
theorem dL_law_2269 : decode cL_law 2269 = .ok (.aload_n 0, 1) := by decide +kernel
theorem dL_law_2270 : decode cL_law 2270 = .ok (.iload 4, 2) := by decide +kernel
theorem dL_law_2272 : decode cL_law 2272 = .ok (.iconst 1, 1) := by decide +kernel
theorem dL_law_2273 : decode cL_law 2273 = .ok (.iadd, 1) := by decide +kernel
theorem dL_law_2274 : decode cL_law 2274 = .ok (.iaload, 1) := by decide +kernel
theorem dL_law_2275 : decode cL_law 2275 = .ok (.aload_n 0, 1) := by decide +kernel
theorem dL_law_2276 : decode cL_law 2276 = .ok (.iload 4, 2) := by decide +kernel
theorem dL_law_2278 : decode cL_law 2278 = .ok (.iconst 2, 1) := by decide +kernel
theorem dL_law_2279 : decode cL_law 2279 = .ok (.iadd, 1) := by decide +kernel
theorem dL_law_2280 : decode cL_law 2280 = .ok (.iaload, 1) := by decide +kernel
theorem dL_law_2281 : decode cL_law 2281 = .ok (.aload_n 3, 1) := by decide +kernel
theorem dL_law_2282 : decode cL_law 2282 = .ok (.invokestatic 297, 3) := by decide +kernel
theorem dL_law_2285 : decode cL_law 2285 = .ok (.istore 5, 2) := by decide +kernel
theorem dL_law_2287 : decode cL_law 2287 = .ok (.aload_n 2, 1) := by decide +kernel
theorem dL_law_2288 : decode cL_law 2288 = .ok (.aload_n 0, 1) := by decide +kernel
theorem dL_law_2289 : decode cL_law 2289 = .ok (.iload 4, 2) := by decide +kernel
theorem dL_law_2291 : decode cL_law 2291 = .ok (.iconst 1, 1) := by decide +kernel
theorem dL_law_2292 : decode cL_law 2292 = .ok (.iadd, 1) := by decide +kernel
theorem dL_law_2293 : decode cL_law 2293 = .ok (.iaload, 1) := by decide +kernel
theorem dL_law_2294 : decode cL_law 2294 = .ok (.aload_n 0, 1) := by decide +kernel
theorem dL_law_2295 : decode cL_law 2295 = .ok (.iload 4, 2) := by decide +kernel
theorem dL_law_2297 : decode cL_law 2297 = .ok (.iconst 2, 1) := by decide +kernel
theorem dL_law_2298 : decode cL_law 2298 = .ok (.iadd, 1) := by decide +kernel
theorem dL_law_2299 : decode cL_law 2299 = .ok (.iaload, 1) := by decide +kernel
theorem dL_law_2300 : decode cL_law 2300 = .ok (.invokevirtual 299, 3) := by decide +kernel
theorem dL_law_2303 : decode cL_law 2303 = .ok (.istore 6, 2) := by decide +kernel
theorem dL_law_2305 : decode cL_law 2305 = .ok (.aload_n 2, 1) := by decide +kernel
theorem dL_law_2306 : decode cL_law 2306 = .ok (.invokevirtual 138, 3) := by decide +kernel
theorem dL_law_2309 : decode cL_law 2309 = .ok (.iload 5, 2) := by decide +kernel
theorem dL_law_2311 : decode cL_law 2311 = .ok (.if_icmp .eq 5, 3) := by decide +kernel
theorem dL_law_2314 : decode cL_law 2314 = .ok (.iconst 0, 1) := by decide +kernel
theorem dL_law_2315 : decode cL_law 2315 = .ok (.ireturn, 1) := by decide +kernel
theorem dL_law_2316 : decode cL_law 2316 = .ok (.iload 5, 2) := by decide +kernel
theorem dL_law_2318 : decode cL_law 2318 = .ok (.ifCond .ne 15, 3) := by decide +kernel
theorem dL_law_2321 : decode cL_law 2321 = .ok (.aload_n 3, 1) := by decide +kernel
theorem dL_law_2322 : decode cL_law 2322 = .ok (.iconst 0, 1) := by decide +kernel
theorem dL_law_2323 : decode cL_law 2323 = .ok (.laload, 1) := by decide +kernel
theorem dL_law_2324 : decode cL_law 2324 = .ok (.iload 6, 2) := by decide +kernel
theorem dL_law_2326 : decode cL_law 2326 = .ok (.i2l, 1) := by decide +kernel
theorem dL_law_2327 : decode cL_law 2327 = .ok (.lcmp, 1) := by decide +kernel
theorem dL_law_2328 : decode cL_law 2328 = .ok (.ifCond .eq 5, 3) := by decide +kernel
theorem dL_law_2331 : decode cL_law 2331 = .ok (.iconst 0, 1) := by decide +kernel
theorem dL_law_2332 : decode cL_law 2332 = .ok (.ireturn, 1) := by decide +kernel
theorem dL_law_2333 : decode cL_law 2333 = .ok (.goto 352, 3) := by decide +kernel
theorem dL_law_2336 : decode cL_law 2336 = .ok (.aload_n 1, 1) := by decide +kernel
theorem dL_law_2337 : decode cL_law 2337 = .ok (.aload_n 0, 1) := by decide +kernel
theorem dL_law_2338 : decode cL_law 2338 = .ok (.iload 4, 2) := by decide +kernel
theorem dL_law_2340 : decode cL_law 2340 = .ok (.iconst 1, 1) := by decide +kernel
theorem dL_law_2341 : decode cL_law 2341 = .ok (.iadd, 1) := by decide +kernel
theorem dL_law_2342 : decode cL_law 2342 = .ok (.iaload, 1) := by decide +kernel
theorem dL_law_2343 : decode cL_law 2343 = .ok (.aload_n 0, 1) := by decide +kernel
theorem dL_law_2344 : decode cL_law 2344 = .ok (.iload 4, 2) := by decide +kernel
theorem dL_law_2346 : decode cL_law 2346 = .ok (.iconst 2, 1) := by decide +kernel
theorem dL_law_2347 : decode cL_law 2347 = .ok (.iadd, 1) := by decide +kernel
theorem dL_law_2348 : decode cL_law 2348 = .ok (.iaload, 1) := by decide +kernel
theorem dL_law_2349 : decode cL_law 2349 = .ok (.aload_n 3, 1) := by decide +kernel
theorem dL_law_2350 : decode cL_law 2350 = .ok (.invokestatic 300, 3) := by decide +kernel
theorem dL_law_2353 : decode cL_law 2353 = .ok (.istore 5, 2) := by decide +kernel
theorem dL_law_2355 : decode cL_law 2355 = .ok (.aload_n 2, 1) := by decide +kernel
theorem dL_law_2356 : decode cL_law 2356 = .ok (.aload_n 0, 1) := by decide +kernel
theorem dL_law_2357 : decode cL_law 2357 = .ok (.iload 4, 2) := by decide +kernel
theorem dL_law_2359 : decode cL_law 2359 = .ok (.iconst 1, 1) := by decide +kernel
theorem dL_law_2360 : decode cL_law 2360 = .ok (.iadd, 1) := by decide +kernel
theorem dL_law_2361 : decode cL_law 2361 = .ok (.iaload, 1) := by decide +kernel
theorem dL_law_2362 : decode cL_law 2362 = .ok (.aload_n 0, 1) := by decide +kernel
theorem dL_law_2363 : decode cL_law 2363 = .ok (.iload 4, 2) := by decide +kernel
theorem dL_law_2365 : decode cL_law 2365 = .ok (.iconst 2, 1) := by decide +kernel
theorem dL_law_2366 : decode cL_law 2366 = .ok (.iadd, 1) := by decide +kernel
theorem dL_law_2367 : decode cL_law 2367 = .ok (.iaload, 1) := by decide +kernel
theorem dL_law_2368 : decode cL_law 2368 = .ok (.invokevirtual 302, 3) := by decide +kernel
theorem dL_law_2371 : decode cL_law 2371 = .ok (.istore 6, 2) := by decide +kernel
theorem dL_law_2373 : decode cL_law 2373 = .ok (.aload_n 2, 1) := by decide +kernel
theorem dL_law_2374 : decode cL_law 2374 = .ok (.invokevirtual 138, 3) := by decide +kernel
theorem dL_law_2377 : decode cL_law 2377 = .ok (.iload 5, 2) := by decide +kernel
theorem dL_law_2379 : decode cL_law 2379 = .ok (.if_icmp .eq 5, 3) := by decide +kernel
theorem dL_law_2382 : decode cL_law 2382 = .ok (.iconst 0, 1) := by decide +kernel
theorem dL_law_2383 : decode cL_law 2383 = .ok (.ireturn, 1) := by decide +kernel
theorem dL_law_2384 : decode cL_law 2384 = .ok (.iload 5, 2) := by decide +kernel
theorem dL_law_2386 : decode cL_law 2386 = .ok (.ifCond .ne 15, 3) := by decide +kernel
theorem dL_law_2389 : decode cL_law 2389 = .ok (.aload_n 3, 1) := by decide +kernel
theorem dL_law_2390 : decode cL_law 2390 = .ok (.iconst 0, 1) := by decide +kernel
theorem dL_law_2391 : decode cL_law 2391 = .ok (.laload, 1) := by decide +kernel
theorem dL_law_2392 : decode cL_law 2392 = .ok (.iload 6, 2) := by decide +kernel
theorem dL_law_2394 : decode cL_law 2394 = .ok (.i2l, 1) := by decide +kernel
theorem dL_law_2395 : decode cL_law 2395 = .ok (.lcmp, 1) := by decide +kernel
theorem dL_law_2396 : decode cL_law 2396 = .ok (.ifCond .eq 5, 3) := by decide +kernel
theorem dL_law_2399 : decode cL_law 2399 = .ok (.iconst 0, 1) := by decide +kernel
theorem dL_law_2400 : decode cL_law 2400 = .ok (.ireturn, 1) := by decide +kernel
theorem dL_law_2401 : decode cL_law 2401 = .ok (.goto 284, 3) := by decide +kernel
theorem dL_law_2404 : decode cL_law 2404 = .ok (.aload_n 1, 1) := by decide +kernel
theorem dL_law_2405 : decode cL_law 2405 = .ok (.aload_n 0, 1) := by decide +kernel
theorem dL_law_2406 : decode cL_law 2406 = .ok (.iload 4, 2) := by decide +kernel
theorem dL_law_2408 : decode cL_law 2408 = .ok (.iconst 1, 1) := by decide +kernel
theorem dL_law_2409 : decode cL_law 2409 = .ok (.iadd, 1) := by decide +kernel
theorem dL_law_2410 : decode cL_law 2410 = .ok (.iaload, 1) := by decide +kernel
theorem dL_law_2411 : decode cL_law 2411 = .ok (.aload_n 3, 1) := by decide +kernel
theorem dL_law_2412 : decode cL_law 2412 = .ok (.invokestatic 303, 3) := by decide +kernel
theorem dL_law_2415 : decode cL_law 2415 = .ok (.istore 5, 2) := by decide +kernel
theorem dL_law_2417 : decode cL_law 2417 = .ok (.aload_n 2, 1) := by decide +kernel
theorem dL_law_2418 : decode cL_law 2418 = .ok (.aload_n 0, 1) := by decide +kernel
theorem dL_law_2419 : decode cL_law 2419 = .ok (.iload 4, 2) := by decide +kernel
theorem dL_law_2421 : decode cL_law 2421 = .ok (.iconst 1, 1) := by decide +kernel
theorem dL_law_2422 : decode cL_law 2422 = .ok (.iadd, 1) := by decide +kernel
theorem dL_law_2423 : decode cL_law 2423 = .ok (.iaload, 1) := by decide +kernel
theorem dL_law_2424 : decode cL_law 2424 = .ok (.invokevirtual 305, 3) := by decide +kernel
theorem dL_law_2427 : decode cL_law 2427 = .ok (.istore 6, 2) := by decide +kernel
theorem dL_law_2429 : decode cL_law 2429 = .ok (.aload_n 2, 1) := by decide +kernel
theorem dL_law_2430 : decode cL_law 2430 = .ok (.invokevirtual 138, 3) := by decide +kernel
theorem dL_law_2433 : decode cL_law 2433 = .ok (.iload 5, 2) := by decide +kernel
theorem dL_law_2435 : decode cL_law 2435 = .ok (.if_icmp .eq 5, 3) := by decide +kernel
theorem dL_law_2438 : decode cL_law 2438 = .ok (.iconst 0, 1) := by decide +kernel
theorem dL_law_2439 : decode cL_law 2439 = .ok (.ireturn, 1) := by decide +kernel
theorem dL_law_2440 : decode cL_law 2440 = .ok (.iload 5, 2) := by decide +kernel
theorem dL_law_2442 : decode cL_law 2442 = .ok (.ifCond .ne 15, 3) := by decide +kernel
theorem dL_law_2445 : decode cL_law 2445 = .ok (.aload_n 3, 1) := by decide +kernel
theorem dL_law_2446 : decode cL_law 2446 = .ok (.iconst 0, 1) := by decide +kernel
theorem dL_law_2447 : decode cL_law 2447 = .ok (.laload, 1) := by decide +kernel
theorem dL_law_2448 : decode cL_law 2448 = .ok (.iload 6, 2) := by decide +kernel
theorem dL_law_2450 : decode cL_law 2450 = .ok (.i2l, 1) := by decide +kernel
theorem dL_law_2451 : decode cL_law 2451 = .ok (.lcmp, 1) := by decide +kernel
theorem dL_law_2452 : decode cL_law 2452 = .ok (.ifCond .eq 5, 3) := by decide +kernel
theorem dL_law_2455 : decode cL_law 2455 = .ok (.iconst 0, 1) := by decide +kernel
theorem dL_law_2456 : decode cL_law 2456 = .ok (.ireturn, 1) := by decide +kernel
theorem dL_law_2457 : decode cL_law 2457 = .ok (.goto 228, 3) := by decide +kernel
theorem dL_law_2460 : decode cL_law 2460 = .ok (.aload_n 1, 1) := by decide +kernel
theorem dL_law_2461 : decode cL_law 2461 = .ok (.aload_n 3, 1) := by decide +kernel
theorem dL_law_2462 : decode cL_law 2462 = .ok (.invokestatic 306, 3) := by decide +kernel
theorem dL_law_2465 : decode cL_law 2465 = .ok (.istore 5, 2) := by decide +kernel
theorem dL_law_2467 : decode cL_law 2467 = .ok (.aload_n 2, 1) := by decide +kernel
theorem dL_law_2468 : decode cL_law 2468 = .ok (.invokevirtual 309, 3) := by decide +kernel
theorem dL_law_2471 : decode cL_law 2471 = .ok (.istore 6, 2) := by decide +kernel
theorem dL_law_2473 : decode cL_law 2473 = .ok (.aload_n 2, 1) := by decide +kernel
theorem dL_law_2474 : decode cL_law 2474 = .ok (.invokevirtual 138, 3) := by decide +kernel
theorem dL_law_2477 : decode cL_law 2477 = .ok (.iload 5, 2) := by decide +kernel
theorem dL_law_2479 : decode cL_law 2479 = .ok (.if_icmp .eq 5, 3) := by decide +kernel
theorem dL_law_2482 : decode cL_law 2482 = .ok (.iconst 0, 1) := by decide +kernel
theorem dL_law_2483 : decode cL_law 2483 = .ok (.ireturn, 1) := by decide +kernel
theorem dL_law_2484 : decode cL_law 2484 = .ok (.iload 5, 2) := by decide +kernel
theorem dL_law_2486 : decode cL_law 2486 = .ok (.ifCond .ne 15, 3) := by decide +kernel
theorem dL_law_2489 : decode cL_law 2489 = .ok (.aload_n 3, 1) := by decide +kernel
theorem dL_law_2490 : decode cL_law 2490 = .ok (.iconst 0, 1) := by decide +kernel
theorem dL_law_2491 : decode cL_law 2491 = .ok (.laload, 1) := by decide +kernel
theorem dL_law_2492 : decode cL_law 2492 = .ok (.iload 6, 2) := by decide +kernel
theorem dL_law_2494 : decode cL_law 2494 = .ok (.i2l, 1) := by decide +kernel
theorem dL_law_2495 : decode cL_law 2495 = .ok (.lcmp, 1) := by decide +kernel
theorem dL_law_2496 : decode cL_law 2496 = .ok (.ifCond .eq 5, 3) := by decide +kernel
theorem dL_law_2499 : decode cL_law 2499 = .ok (.iconst 0, 1) := by decide +kernel
theorem dL_law_2500 : decode cL_law 2500 = .ok (.ireturn, 1) := by decide +kernel
theorem dL_law_2501 : decode cL_law 2501 = .ok (.goto 184, 3) := by decide +kernel
theorem dL_law_2504 : decode cL_law 2504 = .ok (.aload_n 1, 1) := by decide +kernel
theorem dL_law_2505 : decode cL_law 2505 = .ok (.aload_n 0, 1) := by decide +kernel
theorem dL_law_2506 : decode cL_law 2506 = .ok (.iload 4, 2) := by decide +kernel
theorem dL_law_2508 : decode cL_law 2508 = .ok (.iconst 1, 1) := by decide +kernel
theorem dL_law_2509 : decode cL_law 2509 = .ok (.iadd, 1) := by decide +kernel
theorem dL_law_2510 : decode cL_law 2510 = .ok (.iaload, 1) := by decide +kernel
theorem dL_law_2511 : decode cL_law 2511 = .ok (.aload_n 3, 1) := by decide +kernel
theorem dL_law_2512 : decode cL_law 2512 = .ok (.invokestatic 310, 3) := by decide +kernel
theorem dL_law_2515 : decode cL_law 2515 = .ok (.istore 5, 2) := by decide +kernel
theorem dL_law_2517 : decode cL_law 2517 = .ok (.aload_n 2, 1) := by decide +kernel
theorem dL_law_2518 : decode cL_law 2518 = .ok (.aload_n 0, 1) := by decide +kernel
theorem dL_law_2519 : decode cL_law 2519 = .ok (.iload 4, 2) := by decide +kernel
theorem dL_law_2521 : decode cL_law 2521 = .ok (.iconst 1, 1) := by decide +kernel
theorem dL_law_2522 : decode cL_law 2522 = .ok (.iadd, 1) := by decide +kernel
theorem dL_law_2523 : decode cL_law 2523 = .ok (.iaload, 1) := by decide +kernel
theorem dL_law_2524 : decode cL_law 2524 = .ok (.invokevirtual 312, 3) := by decide +kernel
theorem dL_law_2527 : decode cL_law 2527 = .ok (.istore 6, 2) := by decide +kernel
theorem dL_law_2529 : decode cL_law 2529 = .ok (.aload_n 2, 1) := by decide +kernel
theorem dL_law_2530 : decode cL_law 2530 = .ok (.invokevirtual 138, 3) := by decide +kernel
theorem dL_law_2533 : decode cL_law 2533 = .ok (.iload 5, 2) := by decide +kernel
theorem dL_law_2535 : decode cL_law 2535 = .ok (.if_icmp .eq 5, 3) := by decide +kernel
theorem dL_law_2538 : decode cL_law 2538 = .ok (.iconst 0, 1) := by decide +kernel
theorem dL_law_2539 : decode cL_law 2539 = .ok (.ireturn, 1) := by decide +kernel
theorem dL_law_2540 : decode cL_law 2540 = .ok (.iload 5, 2) := by decide +kernel
theorem dL_law_2542 : decode cL_law 2542 = .ok (.ifCond .ne 15, 3) := by decide +kernel
theorem dL_law_2545 : decode cL_law 2545 = .ok (.aload_n 3, 1) := by decide +kernel
theorem dL_law_2546 : decode cL_law 2546 = .ok (.iconst 0, 1) := by decide +kernel
theorem dL_law_2547 : decode cL_law 2547 = .ok (.laload, 1) := by decide +kernel
theorem dL_law_2548 : decode cL_law 2548 = .ok (.iload 6, 2) := by decide +kernel
theorem dL_law_2550 : decode cL_law 2550 = .ok (.i2l, 1) := by decide +kernel
theorem dL_law_2551 : decode cL_law 2551 = .ok (.lcmp, 1) := by decide +kernel
theorem dL_law_2552 : decode cL_law 2552 = .ok (.ifCond .eq 5, 3) := by decide +kernel
theorem dL_law_2555 : decode cL_law 2555 = .ok (.iconst 0, 1) := by decide +kernel
theorem dL_law_2556 : decode cL_law 2556 = .ok (.ireturn, 1) := by decide +kernel
theorem dL_law_2557 : decode cL_law 2557 = .ok (.goto 128, 3) := by decide +kernel
theorem dL_law_2560 : decode cL_law 2560 = .ok (.aload_n 1, 1) := by decide +kernel
theorem dL_law_2561 : decode cL_law 2561 = .ok (.invokevirtual 313, 3) := by decide +kernel
theorem dL_law_2564 : decode cL_law 2564 = .ok (.aload_n 2, 1) := by decide +kernel
theorem dL_law_2565 : decode cL_law 2565 = .ok (.invokevirtual 316, 3) := by decide +kernel
theorem dL_law_2568 : decode cL_law 2568 = .ok (.if_icmp .eq 117, 3) := by decide +kernel
theorem dL_law_2571 : decode cL_law 2571 = .ok (.iconst 0, 1) := by decide +kernel
theorem dL_law_2572 : decode cL_law 2572 = .ok (.ireturn, 1) := by decide +kernel
theorem dL_law_2573 : decode cL_law 2573 = .ok (.aload_n 1, 1) := by decide +kernel
theorem dL_law_2574 : decode cL_law 2574 = .ok (.aload_n 0, 1) := by decide +kernel
theorem dL_law_2575 : decode cL_law 2575 = .ok (.iload 4, 2) := by decide +kernel
theorem dL_law_2577 : decode cL_law 2577 = .ok (.iconst 1, 1) := by decide +kernel
theorem dL_law_2578 : decode cL_law 2578 = .ok (.iadd, 1) := by decide +kernel
theorem dL_law_2579 : decode cL_law 2579 = .ok (.iaload, 1) := by decide +kernel
theorem dL_law_2580 : decode cL_law 2580 = .ok (.aload_n 3, 1) := by decide +kernel
theorem dL_law_2581 : decode cL_law 2581 = .ok (.invokestatic 317, 3) := by decide +kernel
theorem dL_law_2584 : decode cL_law 2584 = .ok (.istore 5, 2) := by decide +kernel
theorem dL_law_2586 : decode cL_law 2586 = .ok (.aload_n 2, 1) := by decide +kernel
theorem dL_law_2587 : decode cL_law 2587 = .ok (.aload_n 0, 1) := by decide +kernel
theorem dL_law_2588 : decode cL_law 2588 = .ok (.iload 4, 2) := by decide +kernel
theorem dL_law_2590 : decode cL_law 2590 = .ok (.iconst 1, 1) := by decide +kernel
theorem dL_law_2591 : decode cL_law 2591 = .ok (.iadd, 1) := by decide +kernel
theorem dL_law_2592 : decode cL_law 2592 = .ok (.iaload, 1) := by decide +kernel
theorem dL_law_2593 : decode cL_law 2593 = .ok (.invokevirtual 319, 3) := by decide +kernel
theorem dL_law_2596 : decode cL_law 2596 = .ok (.istore 6, 2) := by decide +kernel
theorem dL_law_2598 : decode cL_law 2598 = .ok (.aload_n 2, 1) := by decide +kernel
theorem dL_law_2599 : decode cL_law 2599 = .ok (.invokevirtual 138, 3) := by decide +kernel
theorem dL_law_2602 : decode cL_law 2602 = .ok (.iload 5, 2) := by decide +kernel
theorem dL_law_2604 : decode cL_law 2604 = .ok (.if_icmp .eq 5, 3) := by decide +kernel
theorem dL_law_2607 : decode cL_law 2607 = .ok (.iconst 0, 1) := by decide +kernel
theorem dL_law_2608 : decode cL_law 2608 = .ok (.ireturn, 1) := by decide +kernel
theorem dL_law_2609 : decode cL_law 2609 = .ok (.iload 5, 2) := by decide +kernel
theorem dL_law_2611 : decode cL_law 2611 = .ok (.ifCond .ne 15, 3) := by decide +kernel
theorem dL_law_2614 : decode cL_law 2614 = .ok (.aload_n 3, 1) := by decide +kernel
theorem dL_law_2615 : decode cL_law 2615 = .ok (.iconst 0, 1) := by decide +kernel
theorem dL_law_2616 : decode cL_law 2616 = .ok (.laload, 1) := by decide +kernel
theorem dL_law_2617 : decode cL_law 2617 = .ok (.iload 6, 2) := by decide +kernel
theorem dL_law_2619 : decode cL_law 2619 = .ok (.i2l, 1) := by decide +kernel
theorem dL_law_2620 : decode cL_law 2620 = .ok (.lcmp, 1) := by decide +kernel
theorem dL_law_2621 : decode cL_law 2621 = .ok (.ifCond .eq 5, 3) := by decide +kernel
theorem dL_law_2624 : decode cL_law 2624 = .ok (.iconst 0, 1) := by decide +kernel
theorem dL_law_2625 : decode cL_law 2625 = .ok (.ireturn, 1) := by decide +kernel
theorem dL_law_2626 : decode cL_law 2626 = .ok (.goto 59, 3) := by decide +kernel
theorem dL_law_2629 : decode cL_law 2629 = .ok (.aload_n 1, 1) := by decide +kernel
theorem dL_law_2630 : decode cL_law 2630 = .ok (.aload_n 0, 1) := by decide +kernel
theorem dL_law_2631 : decode cL_law 2631 = .ok (.iload 4, 2) := by decide +kernel
theorem dL_law_2633 : decode cL_law 2633 = .ok (.iconst 1, 1) := by decide +kernel
theorem dL_law_2634 : decode cL_law 2634 = .ok (.iadd, 1) := by decide +kernel
theorem dL_law_2635 : decode cL_law 2635 = .ok (.iaload, 1) := by decide +kernel
theorem dL_law_2636 : decode cL_law 2636 = .ok (.aload_n 3, 1) := by decide +kernel
theorem dL_law_2637 : decode cL_law 2637 = .ok (.invokestatic 320, 3) := by decide +kernel
theorem dL_law_2640 : decode cL_law 2640 = .ok (.istore 5, 2) := by decide +kernel
theorem dL_law_2642 : decode cL_law 2642 = .ok (.aload_n 2, 1) := by decide +kernel
theorem dL_law_2643 : decode cL_law 2643 = .ok (.aload_n 0, 1) := by decide +kernel
theorem dL_law_2644 : decode cL_law 2644 = .ok (.iload 4, 2) := by decide +kernel
theorem dL_law_2646 : decode cL_law 2646 = .ok (.iconst 1, 1) := by decide +kernel
theorem dL_law_2647 : decode cL_law 2647 = .ok (.iadd, 1) := by decide +kernel
theorem dL_law_2648 : decode cL_law 2648 = .ok (.iaload, 1) := by decide +kernel
theorem dL_law_2649 : decode cL_law 2649 = .ok (.invokevirtual 322, 3) := by decide +kernel
theorem dL_law_2652 : decode cL_law 2652 = .ok (.istore 6, 2) := by decide +kernel
theorem dL_law_2654 : decode cL_law 2654 = .ok (.aload_n 2, 1) := by decide +kernel
theorem dL_law_2655 : decode cL_law 2655 = .ok (.invokevirtual 138, 3) := by decide +kernel
theorem dL_law_2658 : decode cL_law 2658 = .ok (.iload 5, 2) := by decide +kernel
theorem dL_law_2660 : decode cL_law 2660 = .ok (.if_icmp .eq 5, 3) := by decide +kernel
theorem dL_law_2663 : decode cL_law 2663 = .ok (.iconst 0, 1) := by decide +kernel
theorem dL_law_2664 : decode cL_law 2664 = .ok (.ireturn, 1) := by decide +kernel
theorem dL_law_2665 : decode cL_law 2665 = .ok (.iload 5, 2) := by decide +kernel
theorem dL_law_2667 : decode cL_law 2667 = .ok (.ifCond .ne 15, 3) := by decide +kernel
theorem dL_law_2670 : decode cL_law 2670 = .ok (.aload_n 3, 1) := by decide +kernel
theorem dL_law_2671 : decode cL_law 2671 = .ok (.iconst 0, 1) := by decide +kernel
theorem dL_law_2672 : decode cL_law 2672 = .ok (.laload, 1) := by decide +kernel
theorem dL_law_2673 : decode cL_law 2673 = .ok (.iload 6, 2) := by decide +kernel
theorem dL_law_2675 : decode cL_law 2675 = .ok (.i2l, 1) := by decide +kernel
theorem dL_law_2676 : decode cL_law 2676 = .ok (.lcmp, 1) := by decide +kernel
theorem dL_law_2677 : decode cL_law 2677 = .ok (.ifCond .eq 5, 3) := by decide +kernel
theorem dL_law_2680 : decode cL_law 2680 = .ok (.iconst 0, 1) := by decide +kernel
theorem dL_law_2681 : decode cL_law 2681 = .ok (.ireturn, 1) := by decide +kernel
theorem dL_law_2682 : decode cL_law 2682 = .ok (.goto 3, 3) := by decide +kernel
theorem dL_law_2685 : decode cL_law 2685 = .ok (.iinc 4 6, 3) := by decide +kernel
theorem dL_law_2688 : decode cL_law 2688 = .ok (.goto (-2665), 3) := by decide +kernel
theorem dL_law_2691 : decode cL_law 2691 = .ok (.iconst 1, 1) := by decide +kernel
theorem dL_law_2692 : decode cL_law 2692 = .ok (.ireturn, 1) := by decide +kernel
