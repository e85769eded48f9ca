theorem dL_law_1877 : decode cL_law 1877 = .ok (.iconst 0, 1) := by decide +kernel
theorem dL_law_1878 : decode cL_law 1878 = .ok (.ireturn, 1) := by decide +kernel
theorem dL_law_1879 : decode cL_law 1879 = .ok (.goto 1169, 3) := by decide +kernel
theorem dL_law_1882 : decode cL_law 1882 = .ok (.aload_n 1, 1) := by decide +kernel
theorem dL_law_1883 : decode cL_law 1883 = .ok (.aload_n 0, 1) := by decide +kernel
theorem dL_law_1884 : decode cL_law 1884 = .ok (.iload 5, 2) := by decide +kernel
theorem dL_law_1886 : decode cL_law 1886 = .ok (.iconst 1, 1) := by decide +kernel
theorem dL_law_1887 : decode cL_law 1887 = .ok (.iadd, 1) := by decide +kernel
theorem dL_law_1888 : decode cL_law 1888 = .ok (.iaload, 1) := by decide +kernel
theorem dL_law_1889 : decode cL_law 1889 = .ok (.aload_n 3, 1) := by decide +kernel
theorem dL_law_1890 : decode cL_law 1890 = .ok (.invokestatic 270, 3) := by decide +kernel
theorem dL_law_1893 : decode cL_law 1893 = .ok (.istore 6, 2) := by decide +kernel
theorem dL_law_1895 : decode cL_law 1895 = .ok (.aload_n 2, 1) := by decide +kernel
theorem dL_law_1896 : decode cL_law 1896 = .ok (.aload_n 0, 1) := by decide +kernel
theorem dL_law_1897 : decode cL_law 1897 = .ok (.iload 5, 2) := by decide +kernel
theorem dL_law_1899 : decode cL_law 1899 = .ok (.iconst 1, 1) := by decide +kernel
theorem dL_law_1900 : decode cL_law 1900 = .ok (.iadd, 1) := by decide +kernel
theorem dL_law_1901 : decode cL_law 1901 = .ok (.iaload, 1) := by decide +kernel
theorem dL_law_1902 : decode cL_law 1902 = .ok (.invokevirtual 272, 3) := by decide +kernel
theorem dL_law_1905 : decode cL_law 1905 = .ok (.istore 7, 2) := by decide +kernel
theorem dL_law_1907 : decode cL_law 1907 = .ok (.aload_n 2, 1) := by decide +kernel
theorem dL_law_1908 : decode cL_law 1908 = .ok (.invokevirtual 156, 3) := by decide +kernel
theorem dL_law_1911 : decode cL_law 1911 = .ok (.iload 6, 2) := by decide +kernel
theorem dL_law_1913 : decode cL_law 1913 = .ok (.if_icmp .eq 5, 3) := by decide +kernel
theorem dL_law_1916 : decode cL_law 1916 = .ok (.iconst 0, 1) := by decide +kernel
theorem dL_law_1917 : decode cL_law 1917 = .ok (.ireturn, 1) := by decide +kernel
theorem dL_law_1918 : decode cL_law 1918 = .ok (.iload 6, 2) := by decide +kernel
theorem dL_law_1920 : decode cL_law 1920 = .ok (.ifCond .ne 15, 3) := by decide +kernel
theorem dL_law_1923 : decode cL_law 1923 = .ok (.aload_n 3, 1) := by decide +kernel
theorem dL_law_1924 : decode cL_law 1924 = .ok (.iconst 0, 1) := by decide +kernel
theorem dL_law_1925 : decode cL_law 1925 = .ok (.laload, 1) := by decide +kernel
theorem dL_law_1926 : decode cL_law 1926 = .ok (.iload 7, 2) := by decide +kernel
theorem dL_law_1928 : decode cL_law 1928 = .ok (.i2l, 1) := by decide +kernel
theorem dL_law_1929 : decode cL_law 1929 = .ok (.lcmp, 1) := by decide +kernel
theorem dL_law_1930 : decode cL_law 1930 = .ok (.ifCond .eq 5, 3) := by decide +kernel
theorem dL_law_1933 : decode cL_law 1933 = .ok (.iconst 0, 1) := by decide +kernel
theorem dL_law_1934 : decode cL_law 1934 = .ok (.ireturn, 1) := by decide +kernel
theorem dL_law_1935 : decode cL_law 1935 = .ok (.goto 1113, 3) := by decide +kernel
theorem dL_law_1938 : decode cL_law 1938 = .ok (.aload_n 1, 1) := by decide +kernel
theorem dL_law_1939 : decode cL_law 1939 = .ok (.aload_n 0, 1) := by decide +kernel
theorem dL_law_1940 : decode cL_law 1940 = .ok (.iload 5, 2) := by decide +kernel
theorem dL_law_1942 : decode cL_law 1942 = .ok (.iconst 1, 1) := by decide +kernel
theorem dL_law_1943 : decode cL_law 1943 = .ok (.iadd, 1) := by decide +kernel
theorem dL_law_1944 : decode cL_law 1944 = .ok (.iaload, 1) := by decide +kernel
theorem dL_law_1945 : decode cL_law 1945 = .ok (.aload_n 0, 1) := by decide +kernel
theorem dL_law_1946 : decode cL_law 1946 = .ok (.iload 5, 2) := by decide +kernel
theorem dL_law_1948 : decode cL_law 1948 = .ok (.iconst 2, 1) := by decide +kernel
theorem dL_law_1949 : decode cL_law 1949 = .ok (.iadd, 1) := by decide +kernel
theorem dL_law_1950 : decode cL_law 1950 = .ok (.iaload, 1) := by decide +kernel
theorem dL_law_1951 : decode cL_law 1951 = .ok (.ifCond .eq 7, 3) := by decide +kernel
theorem dL_law_1954 : decode cL_law 1954 = .ok (.iconst 1, 1) := by decide +kernel
theorem dL_law_1955 : decode cL_law 1955 = .ok (.goto 4, 3) := by decide +kernel
theorem dL_law_1958 : decode cL_law 1958 = .ok (.iconst 0, 1) := by decide +kernel
theorem dL_law_1959 : decode cL_law 1959 = .ok (.aload_n 3, 1) := by decide +kernel
theorem dL_law_1960 : decode cL_law 1960 = .ok (.invokestatic 273, 3) := by decide +kernel
theorem dL_law_1963 : decode cL_law 1963 = .ok (.istore 6, 2) := by decide +kernel
theorem dL_law_1965 : decode cL_law 1965 = .ok (.aload_n 2, 1) := by decide +kernel
theorem dL_law_1966 : decode cL_law 1966 = .ok (.aload_n 0, 1) := by decide +kernel
theorem dL_law_1967 : decode cL_law 1967 = .ok (.iload 5, 2) := by decide +kernel
theorem dL_law_1969 : decode cL_law 1969 = .ok (.iconst 1, 1) := by decide +kernel
theorem dL_law_1970 : decode cL_law 1970 = .ok (.iadd, 1) := by decide +kernel
theorem dL_law_1971 : decode cL_law 1971 = .ok (.iaload, 1) := by decide +kernel
theorem dL_law_1972 : decode cL_law 1972 = .ok (.aload_n 0, 1) := by decide +kernel
theorem dL_law_1973 : decode cL_law 1973 = .ok (.iload 5, 2) := by decide +kernel
theorem dL_law_1975 : decode cL_law 1975 = .ok (.iconst 2, 1) := by decide +kernel
theorem dL_law_1976 : decode cL_law 1976 = .ok (.iadd, 1) := by decide +kernel
theorem dL_law_1977 : decode cL_law 1977 = .ok (.iaload, 1) := by decide +kernel
theorem dL_law_1978 : decode cL_law 1978 = .ok (.ifCond .eq 7, 3) := by decide +kernel
theorem dL_law_1981 : decode cL_law 1981 = .ok (.iconst 1, 1) := by decide +kernel
theorem dL_law_1982 : decode cL_law 1982 = .ok (.goto 4, 3) := by decide +kernel
theorem dL_law_1985 : decode cL_law 1985 = .ok (.iconst 0, 1) := by decide +kernel
theorem dL_law_1986 : decode cL_law 1986 = .ok (.invokevirtual 276, 3) := by decide +kernel
theorem dL_law_1989 : decode cL_law 1989 = .ok (.istore 7, 2) := by decide +kernel
theorem dL_law_1991 : decode cL_law 1991 = .ok (.aload_n 2, 1) := by decide +kernel
theorem dL_law_1992 : decode cL_law 1992 = .ok (.invokevirtual 156, 3) := by decide +kernel
theorem dL_law_1995 : decode cL_law 1995 = .ok (.iload 6, 2) := by decide +kernel
theorem dL_law_1997 : decode cL_law 1997 = .ok (.if_icmp .eq 5, 3) := by decide +kernel
theorem dL_law_2000 : decode cL_law 2000 = .ok (.iconst 0, 1) := by decide +kernel
theorem dL_law_2001 : decode cL_law 2001 = .ok (.ireturn, 1) := by decide +kernel
theorem dL_law_2002 : decode cL_law 2002 = .ok (.iload 6, 2) := by decide +kernel
theorem dL_law_2004 : decode cL_law 2004 = .ok (.ifCond .ne 15, 3) := by decide +kernel
theorem dL_law_2007 : decode cL_law 2007 = .ok (.aload_n 3, 1) := by decide +kernel
theorem dL_law_2008 : decode cL_law 2008 = .ok (.iconst 0, 1) := by decide +kernel
theorem dL_law_2009 : decode cL_law 2009 = .ok (.laload, 1) := by decide +kernel
theorem dL_law_2010 : decode cL_law 2010 = .ok (.iload 7, 2) := by decide +kernel
theorem dL_law_2012 : decode cL_law 2012 = .ok (.i2l, 1) := by decide +kernel
theorem dL_law_2013 : decode cL_law 2013 = .ok (.lcmp, 1) := by decide +kernel
theorem dL_law_2014 : decode cL_law 2014 = .ok (.ifCond .eq 5, 3) := by decide +kernel
theorem dL_law_2017 : decode cL_law 2017 = .ok (.iconst 0, 1) := by decide +kernel
theorem dL_law_2018 : decode cL_law 2018 = .ok (.ireturn, 1) := by decide +kernel
theorem dL_law_2019 : decode cL_law 2019 = .ok (.goto 1029, 3) := by decide +kernel
theorem dL_law_2022 : decode cL_law 2022 = .ok (.aload_n 1, 1) := by decide +kernel
theorem dL_law_2023 : decode cL_law 2023 = .ok (.invokevirtual 277, 3) := by decide +kernel
theorem dL_law_2026 : decode cL_law 2026 = .ok (.aload_n 2, 1) := by decide +kernel
theorem dL_law_2027 : decode cL_law 2027 = .ok (.invokevirtual 280, 3) := by decide +kernel
theorem dL_law_2030 : decode cL_law 2030 = .ok (.if_icmp .eq 1018, 3) := by decide +kernel
theorem dL_law_2033 : decode cL_law 2033 = .ok (.iconst 0, 1) := by decide +kernel
theorem dL_law_2034 : decode cL_law 2034 = .ok (.ireturn, 1) := by decide +kernel
theorem dL_law_2035 : decode cL_law 2035 = .ok (.aload_n 1, 1) := by decide +kernel
theorem dL_law_2036 : decode cL_law 2036 = .ok (.aload_n 0, 1) := by decide +kernel
theorem dL_law_2037 : decode cL_law 2037 = .ok (.iload 5, 2) := by decide +kernel
theorem dL_law_2039 : decode cL_law 2039 = .ok (.iconst 1, 1) := by decide +kernel
theorem dL_law_2040 : decode cL_law 2040 = .ok (.iadd, 1) := by decide +kernel
theorem dL_law_2041 : decode cL_law 2041 = .ok (.iaload, 1) := by decide +kernel
theorem dL_law_2042 : decode cL_law 2042 = .ok (.aload_n 3, 1) := by decide +kernel
theorem dL_law_2043 : decode cL_law 2043 = .ok (.invokestatic 281, 3) := by decide +kernel
theorem dL_law_2046 : decode cL_law 2046 = .ok (.istore 6, 2) := by decide +kernel
theorem dL_law_2048 : decode cL_law 2048 = .ok (.aload_n 2, 1) := by decide +kernel
theorem dL_law_2049 : decode cL_law 2049 = .ok (.aload_n 0, 1) := by decide +kernel
theorem dL_law_2050 : decode cL_law 2050 = .ok (.iload 5, 2) := by decide +kernel
theorem dL_law_2052 : decode cL_law 2052 = .ok (.iconst 1, 1) := by decide +kernel
theorem dL_law_2053 : decode cL_law 2053 = .ok (.iadd, 1) := by decide +kernel
theorem dL_law_2054 : decode cL_law 2054 = .ok (.iaload, 1) := by decide +kernel
theorem dL_law_2055 : decode cL_law 2055 = .ok (.invokevirtual 283, 3) := by decide +kernel
theorem dL_law_2058 : decode cL_law 2058 = .ok (.istore 7, 2) := by decide +kernel
theorem dL_law_2060 : decode cL_law 2060 = .ok (.aload_n 2, 1) := by decide +kernel
theorem dL_law_2061 : decode cL_law 2061 = .ok (.invokevirtual 156, 3) := by decide +kernel
theorem dL_law_2064 : decode cL_law 2064 = .ok (.iload 6, 2) := by decide +kernel
theorem dL_law_2066 : decode cL_law 2066 = .ok (.if_icmp .eq 5, 3) := by decide +kernel
theorem dL_law_2069 : decode cL_law 2069 = .ok (.iconst 0, 1) := by decide +kernel
theorem dL_law_2070 : decode cL_law 2070 = .ok (.ireturn, 1) := by decide +kernel
theorem dL_law_2071 : decode cL_law 2071 = .ok (.iload 6, 2) := by decide +kernel
theorem dL_law_2073 : decode cL_law 2073 = .ok (.ifCond .ne 15, 3) := by decide +kernel
theorem dL_law_2076 : decode cL_law 2076 = .ok (.aload_n 3, 1) := by decide +kernel
theorem dL_law_2077 : decode cL_law 2077 = .ok (.iconst 0, 1) := by decide +kernel
theorem dL_law_2078 : decode cL_law 2078 = .ok (.laload, 1) := by decide +kernel
theorem dL_law_2079 : decode cL_law 2079 = .ok (.iload 7, 2) := by decide +kernel
theorem dL_law_2081 : decode cL_law 2081 = .ok (.i2l, 1) := by decide +kernel
theorem dL_law_2082 : decode cL_law 2082 = .ok (.lcmp, 1) := by decide +kernel
theorem dL_law_2083 : decode cL_law 2083 = .ok (.ifCond .eq 5, 3) := by decide +kernel
theorem dL_law_2086 : decode cL_law 2086 = .ok (.iconst 0, 1) := by decide +kernel
theorem dL_law_2087 : decode cL_law 2087 = .ok (.ireturn, 1) := by decide +kernel
theorem dL_law_2088 : decode cL_law 2088 = .ok (.goto 960, 3) := by decide +kernel
theorem dL_law_2091 : decode cL_law 2091 = .ok (.aload_n 1, 1) := by decide +kernel
theorem dL_law_2092 : decode cL_law 2092 = .ok (.aload_n 0, 1) := by decide +kernel
theorem dL_law_2093 : decode cL_law 2093 = .ok (.iload 5, 2) := by decide +kernel
theorem dL_law_2095 : decode cL_law 2095 = .ok (.iconst 1, 1) := by decide +kernel
theorem dL_law_2096 : decode cL_law 2096 = .ok (.iadd, 1) := by decide +kernel
theorem dL_law_2097 : decode cL_law 2097 = .ok (.iaload, 1) := by decide +kernel
theorem dL_law_2098 : decode cL_law 2098 = .ok (.aload_n 0, 1) := by decide +kernel
theorem dL_law_2099 : decode cL_law 2099 = .ok (.iload 5, 2) := by decide +kernel
theorem dL_law_2101 : decode cL_law 2101 = .ok (.iconst 2, 1) := by decide +kernel
theorem dL_law_2102 : decode cL_law 2102 = .ok (.iadd, 1) := by decide +kernel
theorem dL_law_2103 : decode cL_law 2103 = .ok (.iaload, 1) := by decide +kernel
theorem dL_law_2104 : decode cL_law 2104 = .ok (.aload_n 3, 1) := by decide +kernel
theorem dL_law_2105 : decode cL_law 2105 = .ok (.invokestatic 284, 3) := by decide +kernel
theorem dL_law_2108 : decode cL_law 2108 = .ok (.istore 6, 2) := by decide +kernel
theorem dL_law_2110 : decode cL_law 2110 = .ok (.aload_n 2, 1) := by decide +kernel
theorem dL_law_2111 : decode cL_law 2111 = .ok (.aload_n 0, 1) := by decide +kernel
theorem dL_law_2112 : decode cL_law 2112 = .ok (.iload 5, 2) := by decide +kernel
theorem dL_law_2114 : decode cL_law 2114 = .ok (.iconst 1, 1) := by decide +kernel
theorem dL_law_2115 : decode cL_law 2115 = .ok (.iadd, 1) := by decide +kernel
theorem dL_law_2116 : decode cL_law 2116 = .ok (.iaload, 1) := by decide +kernel
theorem dL_law_2117 : decode cL_law 2117 = .ok (.aload_n 0, 1) := by decide +kernel
theorem dL_law_2118 : decode cL_law 2118 = .ok (.iload 5, 2) := by decide +kernel
theorem dL_law_2120 : decode cL_law 2120 = .ok (.iconst 2, 1) := by decide +kernel
theorem dL_law_2121 : decode cL_law 2121 = .ok (.iadd, 1) := by decide +kernel
theorem dL_law_2122 : decode cL_law 2122 = .ok (.iaload, 1) := by decide +kernel
theorem dL_law_2123 : decode cL_law 2123 = .ok (.invokevirtual 286, 3) := by decide +kernel
theorem dL_law_2126 : decode cL_law 2126 = .ok (.istore 7, 2) := by decide +kernel
theorem dL_law_2128 : decode cL_law 2128 = .ok (.aload_n 2, 1) := by decide +kernel
theorem dL_law_2129 : decode cL_law 2129 = .ok (.invokevirtual 156, 3) := by decide +kernel
theorem dL_law_2132 : decode cL_law 2132 = .ok (.iload 6, 2) := by decide +kernel
theorem dL_law_2134 : decode cL_law 2134 = .ok (.if_icmp .eq 5, 3) := by decide +kernel
theorem dL_law_2137 : decode cL_law 2137 = .ok (.iconst 0, 1) := by decide +kernel
theorem dL_law_2138 : decode cL_law 2138 = .ok (.ireturn, 1) := by decide +kernel
theorem dL_law_2139 : decode cL_law 2139 = .ok (.iload 6, 2) := by decide +kernel
theorem dL_law_2141 : decode cL_law 2141 = .ok (.ifCond .ne 15, 3) := by decide +kernel
theorem dL_law_2144 : decode cL_law 2144 = .ok (.aload_n 3, 1) := by decide +kernel
theorem dL_law_2145 : decode cL_law 2145 = .ok (.iconst 0, 1) := by decide +kernel
theorem dL_law_2146 : decode cL_law 2146 = .ok (.laload, 1) := by decide +kernel
theorem dL_law_2147 : decode cL_law 2147 = .ok (.iload 7, 2) := by decide +kernel
theorem dL_law_2149 : decode cL_law 2149 = .ok (.i2l, 1) := by decide +kernel
theorem dL_law_2150 : decode cL_law 2150 = .ok (.lcmp, 1) := by decide +kernel
theorem dL_law_2151 : decode cL_law 2151 = .ok (.ifCond .eq 5, 3) := by decide +kernel
theorem dL_law_2154 : decode cL_law 2154 = .ok (.iconst 0, 1) := by decide +kernel
theorem dL_law_2155 : decode cL_law 2155 = .ok (.ireturn, 1) := by decide +kernel
theorem dL_law_2156 : decode cL_law 2156 = .ok (.goto 892, 3) := by decide +kernel
theorem dL_law_2159 : decode cL_law 2159 = .ok (.aload_n 1, 1) := by decide +kernel
theorem dL_law_2160 : decode cL_law 2160 = .ok (.aload_n 0, 1) := by decide +kernel
theorem dL_law_2161 : decode cL_law 2161 = .ok (.iload 5, 2) := by decide +kernel
theorem dL_law_2163 : decode cL_law 2163 = .ok (.iconst 1, 1) := by decide +kernel
theorem dL_law_2164 : decode cL_law 2164 = .ok (.iadd, 1) := by decide +kernel
theorem dL_law_2165 : decode cL_law 2165 = .ok (.iaload, 1) := by decide +kernel
theorem dL_law_2166 : decode cL_law 2166 = .ok (.aload_n 3, 1) := by decide +kernel
theorem dL_law_2167 : decode cL_law 2167 = .ok (.invokestatic 287, 3) := by decide +kernel
theorem dL_law_2170 : decode cL_law 2170 = .ok (.istore 6, 2) := by decide +kernel
theorem dL_law_2172 : decode cL_law 2172 = .ok (.aload_n 2, 1) := by decide +kernel
theorem dL_law_2173 : decode cL_law 2173 = .ok (.aload_n 0, 1) := by decide +kernel
theorem dL_law_2174 : decode cL_law 2174 = .ok (.iload 5, 2) := by decide +kernel
theorem dL_law_2176 : decode cL_law 2176 = .ok (.iconst 1, 1) := by decide +kernel
theorem dL_law_2177 : decode cL_law 2177 = .ok (.iadd, 1) := by decide +kernel
theorem dL_law_2178 : decode cL_law 2178 = .ok (.iaload, 1) := by decide +kernel
theorem dL_law_2179 : decode cL_law 2179 = .ok (.invokevirtual 289, 3) := by decide +kernel
theorem dL_law_2182 : decode cL_law 2182 = .ok (.istore 7, 2) := by decide +kernel
theorem dL_law_2184 : decode cL_law 2184 = .ok (.aload_n 2, 1) := by decide +kernel
theorem dL_law_2185 : decode cL_law 2185 = .ok (.invokevirtual 156, 3) := by decide +kernel
theorem dL_law_2188 : decode cL_law 2188 = .ok (.iload 6, 2) := by decide +kernel
theorem dL_law_2190 : decode cL_law 2190 = .ok (.if_icmp .eq 5, 3) := by decide +kernel
theorem dL_law_2193 : decode cL_law 2193 = .ok (.iconst 0, 1) := by decide +kernel
theorem dL_law_2194 : decode cL_law 2194 = .ok (.ireturn, 1) := by decide +kernel
theorem dL_law_2195 : decode cL_law 2195 = .ok (.iload 6, 2) := by decide +kernel
theorem dL_law_2197 : decode cL_law 2197 = .ok (.ifCond .ne 15, 3) := by decide +kernel
theorem dL_law_2200 : decode cL_law 2200 = .ok (.aload_n 3, 1) := by decide +kernel
theorem dL_law_2201 : decode cL_law 2201 = .ok (.iconst 0, 1) := by decide +kernel
theorem dL_law_2202 : decode cL_law 2202 = .ok (.laload, 1) := by decide +kernel
theorem dL_law_2203 : decode cL_law 2203 = .ok (.iload 7, 2) := by decide +kernel
theorem dL_law_2205 : decode cL_law 2205 = .ok (.i2l, 1) := by decide +kernel
theorem dL_law_2206 : decode cL_law 2206 = .ok (.lcmp, 1) := by decide +kernel
theorem dL_law_2207 : decode cL_law 2207 = .ok (.ifCond .eq 5, 3) := by decide +kernel
theorem dL_law_2210 : decode cL_law 2210 = .ok (.iconst 0, 1) := by decide +kernel
theorem dL_law_2211 : decode cL_law 2211 = .ok (.ireturn, 1) := by decide +kernel
theorem dL_law_2212 : decode cL_law 2212 = .ok (.goto 836, 3) := by decide +kernel
theorem dL_law_2215 : decode cL_law 2215 = .ok (.aload_n 1, 1) := by decide +kernel
theorem dL_law_2216 : decode cL_law 2216 = .ok (.aload_n 0, 1) := by decide +kernel
theorem dL_law_2217 : decode cL_law 2217 = .ok (.iload 5, 2) := by decide +kernel
theorem dL_law_2219 : decode cL_law 2219 = .ok (.iconst 1, 1) := by decide +kernel
theorem dL_law_2220 : decode cL_law 2220 = .ok (.iadd, 1) := by decide +kernel
theorem dL_law_2221 : decode cL_law 2221 = .ok (.iaload, 1) := by decide +kernel
theorem dL_law_2222 : decode cL_law 2222 = .ok (.aload_n 3, 1) := by decide +kernel
theorem dL_law_2223 : decode cL_law 2223 = .ok (.invokestatic 290, 3) := by decide +kernel
theorem dL_law_2226 : decode cL_law 2226 = .ok (.istore 6, 2) := by decide +kernel
theorem dL_law_2228 : decode cL_law 2228 = .ok (.aload_n 2, 1) := by decide +kernel
theorem dL_law_2229 : decode cL_law 2229 = .ok (.aload_n 0, 1) := by decide +kernel
theorem dL_law_2230 : decode cL_law 2230 = .ok (.iload 5, 2) := by decide +kernel
theorem dL_law_2232 : decode cL_law 2232 = .ok (.iconst 1, 1) := by decide +kernel
theorem dL_law_2233 : decode cL_law 2233 = .ok (.iadd, 1) := by decide +kernel
theorem dL_law_2234 : decode cL_law 2234 = .ok (.iaload, 1) := by decide +kernel
theorem dL_law_2235 : decode cL_law 2235 = .ok (.invokevirtual 292, 3) := by decide +kernel
theorem dL_law_2238 : decode cL_law 2238 = .ok (.istore 7, 2) := by decide +kernel
theorem dL_law_2240 : decode cL_law 2240 = .ok (.aload_n 2, 1) := by decide +kernel
theorem dL_law_2241 : decode cL_law 2241 = .ok (.invokevirtual 156, 3) := by decide +kernel
theorem dL_law_2244 : decode cL_law 2244 = .ok (.iload 6, 2) := by decide +kernel
theorem dL_law_2246 : decode cL_law 2246 = .ok (.if_icmp .eq 5, 3) := by decide +kernel
theorem dL_law_2249 : decode cL_law 2249 = .ok (.iconst 0, 1) := by decide +kernel
theorem dL_law_2250 : decode cL_law 2250 = .ok (.ireturn, 1) := by decide +kernel
theorem dL_law_2251 : decode cL_law 2251 = .ok (.iload 6, 2) := by decide +kernel
theorem dL_law_2253 : decode cL_law 2253 = .ok (.ifCond .ne 15, 3) := by decide +kernel
theorem dL_law_2256 : decode cL_law 2256 = .ok (.aload_n 3, 1) := by decide +kernel
theorem dL_law_2257 : decode cL_law 2257 = .ok (.iconst 0, 1) := by decide +kernel
theorem dL_law_2258 : decode cL_law 2258 = .ok (.laload, 1) := by decide +kernel
theorem dL_law_2259 : decode cL_law 2259 = .ok (.iload 7, 2) := by decide +kernel
theorem dL_law_2261 : decode cL_law 2261 = .ok (.i2l, 1) := by decide +kernel
theorem dL_law_2262 : decode cL_law 2262 = .ok (.lcmp, 1) := by decide +kernel
theorem dL_law_2263 : decode cL_law 2263 = .ok (.ifCond .eq 5, 3) := by decide +kernel
theorem dL_law_2266 : decode cL_law 2266 = .ok (.iconst 0, 1) := by decide +kernel
theorem dL_law_2267 : decode cL_law 2267 = .ok (.ireturn, 1) := by decide +kernel
theorem dL_law_2268 : decode cL_law 2268 = .ok (.goto 780, 3) := by decide +kernel
theorem dL_law_2271 : decode cL_law 2271 = .ok (.aload_n 1, 1) := by decide +kernel
theorem dL_law_2272 : decode cL_law 2272 = .ok (.aload_n 0, 1) := by decide +kernel
theorem dL_law_2273 : decode cL_law 2273 = .ok (.iload 5, 2) := by decide +kernel
theorem dL_law_2275 : decode cL_law 2275 = .ok (.iconst 1, 1) := by decide +kernel
theorem dL_law_2276 : decode cL_law 2276 = .ok (.iadd, 1) := by decide +kernel
theorem dL_law_2277 : decode cL_law 2277 = .ok (.iaload, 1) := by decide +kernel
theorem dL_law_2278 : decode cL_law 2278 = .ok (.aload_n 0, 1) := by decide +kernel
theorem dL_law_2279 : decode cL_law 2279 = .ok (.iload 5, 2) := by decide +kernel
theorem dL_law_2281 : decode cL_law 2281 = .ok (.iconst 2, 1) := by decide +kernel
theorem dL_law_2282 : decode cL_law 2282 = .ok (.iadd, 1) := by decide +kernel
theorem dL_law_2283 : decode cL_law 2283 = .ok (.iaload, 1) := by decide +kernel
theorem dL_law_2284 : decode cL_law 2284 = .ok (.aload_n 3, 1) := by decide +kernel
theorem dL_law_2285 : decode cL_law 2285 = .ok (.invokestatic 293, 3) := by decide +kernel
theorem dL_law_2288 : decode cL_law 2288 = .ok (.istore 6, 2) := by decide +kernel
theorem dL_law_2290 : decode cL_law 2290 = .ok (.aload_n 2, 1) := by decide +kernel
theorem dL_law_2291 : decode cL_law 2291 = .ok (.aload_n 0, 1) := by decide +kernel
theorem dL_law_2292 : decode cL_law 2292 = .ok (.iload 5, 2) := by decide +kernel
theorem dL_law_2294 : decode cL_law 2294 = .ok (.iconst 1, 1) := by decide +kernel
theorem dL_law_2295 : decode cL_law 2295 = .ok (.iadd, 1) := by decide +kernel
theorem dL_law_2296 : decode cL_law 2296 = .ok (.iaload, 1) := by decide +kernel
theorem dL_law_2297 : decode cL_law 2297 = .ok (.aload_n 0, 1) := by decide +kernel
theorem dL_law_2298 : decode cL_law 2298 = .ok (.iload 5, 2) := by decide +kernel
theorem dL_law_2300 : decode cL_law 2300 = .ok (.iconst 2, 1) := by decide +kernel
theorem dL_law_2301 : decode cL_law 2301 = .ok (.iadd, 1) := by decide +kernel
theorem dL_law_2302 : decode cL_law 2302 = .ok (.iaload, 1) := by decide +kernel
theorem dL_law_2303 : decode cL_law 2303 = .ok (.invokevirtual 295, 3) := by decide +kernel
theorem dL_law_2306 : decode cL_law 2306 = .ok (.istore 7, 2) := by decide +kernel
theorem dL_law_2308 : decode cL_law 2308 = .ok (.aload_n 2, 1) := by decide +kernel
theorem dL_law_2309 : decode cL_law 2309 = .ok (.invokevirtual 156, 3) := by decide +kernel
theorem dL_law_2312 : decode cL_law 2312 = .ok (.iload 6, 2) := by decide +kernel
theorem dL_law_2314 : decode cL_law 2314 = .ok (.if_icmp .eq 5, 3) := by decide +kernel
theorem dL_law_2317 : decode cL_law 2317 = .ok (.iconst 0, 1) := by decide +kernel
theorem dL_law_2318 : decode cL_law 2318 = .ok (.ireturn, 1) := by decide +kernel
theorem dL_law_2319 : decode cL_law 2319 = .ok (.iload 6, 2) := by decide +kernel
theorem dL_law_2321 : decode cL_law 2321 = .ok (.ifCond .ne 15, 3) := by decide +kernel
theorem dL_law_2324 : decode cL_law 2324 = .ok (.aload_n 3, 1) := by decide +kernel
theorem dL_law_2325 : decode cL_law 2325 = .ok (.iconst 0, 1) := by decide +kernel
theorem dL_law_2326 : decode cL_law 2326 = .ok (.laload, 1) := by decide +kernel
theorem dL_law_2327 : decode cL_law 2327 = .ok (.iload 7, 2) := by decide +kernel
theorem dL_law_2329 : decode cL_law 2329 = .ok (.i2l, 1) := by decide +kernel
theorem dL_law_2330 : decode cL_law 2330 = .ok (.lcmp, 1) := by decide +kernel
theorem dL_law_2331 : decode cL_law 2331 = .ok (.ifCond .eq 5, 3) := by decide +kernel
theorem dL_law_2334 : decode cL_law 2334 = .ok (.iconst 0, 1) := by decide +kernel
theorem dL_law_2335 : decode cL_law 2335 = .ok (.ireturn, 1) := by decide +kernel
theorem dL_law_2336 : decode cL_law 2336 = .ok (.goto 712, 3) := by decide +kernel
theorem dL_law_2339 : decode cL_law 2339 = .ok (.aload_n 1, 1) := by decide +kernel
theorem dL_law_2340 : decode cL_law 2340 = .ok (.aload_n 0, 1) := by decide +kernel
theorem dL_law_2341 : decode cL_law 2341 = .ok (.iload 5, 2) := by decide +kernel
theorem dL_law_2343 : decode cL_law 2343 = .ok (.iconst 1, 1) := by decide +kernel
theorem dL_law_2344 : decode cL_law 2344 = .ok (.iadd, 1) := by decide +kernel
theorem dL_law_2345 : decode cL_law 2345 = .ok (.iaload, 1) := by decide +kernel
theorem dL_law_2346 : decode cL_law 2346 = .ok (.aload_n 0, 1) := by decide +kernel
theorem dL_law_2347 : decode cL_law 2347 = .ok (.iload 5, 2) := by decide +kernel
theorem dL_law_2349 : decode cL_law 2349 = .ok (.iconst 2, 1) := by decide +kernel
theorem dL_law_2350 : decode cL_law 2350 = .ok (.iadd, 1) := by decide +kernel
theorem dL_law_2351 : decode cL_law 2351 = .ok (.iaload, 1) := by decide +kernel
theorem dL_law_2352 : decode cL_law 2352 = .ok (.aload_n 0, 1) := by decide +kernel
theorem dL_law_2353 : decode cL_law 2353 = .ok (.iload 5, 2) := by decide +kernel
theorem dL_law_2355 : decode cL_law 2355 = .ok (.iconst 3, 1) := by decide +kernel
theorem dL_law_2356 : decode cL_law 2356 = .ok (.iadd, 1) := by decide +kernel
theorem dL_law_2357 : decode cL_law 2357 = .ok (.iaload, 1) := by decide +kernel
theorem dL_law_2358 : decode cL_law 2358 = .ok (.aload_n 3, 1) := by decide +kernel
theorem dL_law_2359 : decode cL_law 2359 = .ok (.invokestatic 296, 3) := by decide +kernel
theorem dL_law_2362 : decode cL_law 2362 = .ok (.istore 6, 2) := by decide +kernel
theorem dL_law_2364 : decode cL_law 2364 = .ok (.aload_n 2, 1) := by decide +kernel
theorem dL_law_2365 : decode cL_law 2365 = .ok (.aload_n 0, 1) := by decide +kernel
theorem dL_law_2366 : decode cL_law 2366 = .ok (.iload 5, 2) := by decide +kernel
theorem dL_law_2368 : decode cL_law 2368 = .ok (.iconst 1, 1) := by decide +kernel
theorem dL_law_2369 : decode cL_law 2369 = .ok (.iadd, 1) := by decide +kernel
theorem dL_law_2370 : decode cL_law 2370 = .ok (.iaload, 1) := by decide +kernel
theorem dL_law_2371 : decode cL_law 2371 = .ok (.aload_n 0, 1) := by decide +kernel
theorem dL_law_2372 : decode cL_law 2372 = .ok (.iload 5, 2) := by decide +kernel
theorem dL_law_2374 : decode cL_law 2374 = .ok (.iconst 2, 1) := by decide +kernel
theorem dL_law_2375 : decode cL_law 2375 = .ok (.iadd, 1) := by decide +kernel
theorem dL_law_2376 : decode cL_law 2376 = .ok (.iaload, 1) := by decide +kernel
theorem dL_law_2377 : decode cL_law 2377 = .ok (.aload_n 0, 1) := by decide +kernel
theorem dL_law_2378 : decode cL_law 2378 = .ok (.iload 5, 2) := by decide +kernel
theorem dL_law_2380 : decode cL_law 2380 = .ok (.iconst 3, 1) := by decide +kernel
theorem dL_law_2381 : decode cL_law 2381 = .ok (.iadd, 1) := by decide +kernel
theorem dL_law_2382 : decode cL_law 2382 = .ok (.iaload, 1) := by decide +kernel
theorem dL_law_2383 : decode cL_law 2383 = .ok (.invokevirtual 299, 3) := by decide +kernel
theorem dL_law_2386 : decode cL_law 2386 = .ok (.istore 7, 2) := by decide +kernel
theorem dL_law_2388 : decode cL_law 2388 = .ok (.aload_n 2, 1) := by decide +kernel
theorem dL_law_2389 : decode cL_law 2389 = .ok (.invokevirtual 156, 3) := by decide +kernel
theorem dL_law_2392 : decode cL_law 2392 = .ok (.iload 6, 2) := by decide +kernel
theorem dL_law_2394 : decode cL_law 2394 = .ok (.if_icmp .eq 5, 3) := by decide +kernel
theorem dL_law_2397 : decode cL_law 2397 = .ok (.iconst 0, 1) := by decide +kernel
theorem dL_law_2398 : decode cL_law 2398 = .ok (.ireturn, 1) := by decide +kernel
theorem dL_law_2399 : decode cL_law 2399 = .ok (.iload 6, 2) := by decide +kernel
theorem dL_law_2401 : decode cL_law 2401 = .ok (.ifCond .ne 15, 3) := by decide +kernel
theorem dL_law_2404 : decode cL_law 2404 = .ok (.aload_n 3, 1) := by decide +kernel
theorem dL_law_2405 : decode cL_law 2405 = .ok (.iconst 0, 1) := by decide +kernel
theorem dL_law_2406 : decode cL_law 2406 = .ok (.laload, 1) := by decide +kernel
theorem dL_law_2407 : decode cL_law 2407 = .ok (.iload 7, 2) := by decide +kernel
theorem dL_law_2409 : decode cL_law 2409 = .ok (.i2l, 1) := by decide +kernel
theorem dL_law_2410 : decode cL_law 2410 = .ok (.lcmp, 1) := by decide +kernel
theorem dL_law_2411 : decode cL_law 2411 = .ok (.ifCond .eq 5, 3) := by decide +kernel
theorem dL_law_2414 : decode cL_law 2414 = .ok (.iconst 0, 1) := by decide +kernel
theorem dL_law_2415 : decode cL_law 2415 = .ok (.ireturn, 1) := by decide +kernel
theorem dL_law_2416 : decode cL_law 2416 = .ok (.goto 632, 3) := by decide +kernel
theorem dL_law_2419 : decode cL_law 2419 = .ok (.aload_n 1, 1) := by decide +kernel
theorem dL_law_2420 : decode cL_law 2420 = .ok (.aload_n 0, 1) := by decide +kernel
theorem dL_law_2421 : decode cL_law 2421 = .ok (.iload 5, 2) := by decide +kernel
theorem dL_law_2423 : decode cL_law 2423 = .ok (.iconst 1, 1) := by decide +kernel
theorem dL_law_2424 : decode cL_law 2424 = .ok (.iadd, 1) := by decide +kernel
theorem dL_law_2425 : decode cL_law 2425 = .ok (.iaload, 1) := by decide +kernel
theorem dL_law_2426 : decode cL_law 2426 = .ok (.aload_n 3, 1) := by decide +kernel
theorem dL_law_2427 : decode cL_law 2427 = .ok (.invokestatic 300, 3) := by decide +kernel
theorem dL_law_2430 : decode cL_law 2430 = .ok (.istore 6, 2) := by decide +kernel
theorem dL_law_2432 : decode cL_law 2432 = .ok (.aload_n 2, 1) := by decide +kernel
theorem dL_law_2433 : decode cL_law 2433 = .ok (.aload_n 0, 1) := by decide +kernel
theorem dL_law_2434 : decode cL_law 2434 = .ok (.iload 5, 2) := by decide +kernel
theorem dL_law_2436 : decode cL_law 2436 = .ok (.iconst 1, 1) := by decide +kernel
theorem dL_law_2437 : decode cL_law 2437 = .ok (.iadd, 1) := by decide +kernel
theorem dL_law_2438 : decode cL_law 2438 = .ok (.iaload, 1) := by decide +kernel
theorem dL_law_2439 : decode cL_law 2439 = .ok (.invokevirtual 302, 3) := by decide +kernel
theorem dL_law_2442 : decode cL_law 2442 = .ok (.istore 7, 2) := by decide +kernel
theorem dL_law_2444 : decode cL_law 2444 = .ok (.aload_n 2, 1) := by decide +kernel
theorem dL_law_2445 : decode cL_law 2445 = .ok (.invokevirtual 156, 3) := by decide +kernel
theorem dL_law_2448 : decode cL_law 2448 = .ok (.iload 6, 2) := by decide +kernel
theorem dL_law_2450 : decode cL_law 2450 = .ok (.if_icmp .eq 5, 3) := by decide +kernel
theorem dL_law_2453 : decode cL_law 2453 = .ok (.iconst 0, 1) := by decide +kernel
theorem dL_law_2454 : decode cL_law 2454 = .ok (.ireturn, 1) := by decide +kernel
theorem dL_law_2455 : decode cL_law 2455 = .ok (.iload 6, 2) := by decide +kernel
theorem dL_law_2457 : decode cL_law 2457 = .ok (.ifCond .ne 15, 3) := by decide +kernel
theorem dL_law_2460 : decode cL_law 2460 = .ok (.aload_n 3, 1) := by decide +kernel
theorem dL_law_2461 : decode cL_law 2461 = .ok (.iconst 0, 1) := by decide +kernel
theorem dL_law_2462 : decode cL_law 2462 = .ok (.laload, 1) := by decide +kernel
theorem dL_law_2463 : decode cL_law 2463 = .ok (.iload 7, 2) := by decide +kernel
theorem dL_law_2465 : decode cL_law 2465 = .ok (.i2l, 1) := by decide +kernel
theorem dL_law_2466 : decode cL_law 2466 = .ok (.lcmp, 1) := by decide +kernel
theorem dL_law_2467 : decode cL_law 2467 = .ok (.ifCond .eq 5, 3) := by decide +kernel
theorem dL_law_2470 : decode cL_law 2470 = .ok (.iconst 0, 1) := by decide +kernel
theorem dL_law_2471 : decode cL_law 2471 = .ok (.ireturn, 1) := by decide +kernel
theorem dL_law_2472 : decode cL_law 2472 = .ok (.goto 576, 3) := by decide +kernel
theorem dL_law_2475 : decode cL_law 2475 = .ok (.aload_n 1, 1) := by decide +kernel
theorem dL_law_2476 : decode cL_law 2476 = .ok (.invokevirtual 303, 3) := by decide +kernel
theorem dL_law_2479 : decode cL_law 2479 = .ok (.aload_n 2, 1) := by decide +kernel
theorem dL_law_2480 : decode cL_law 2480 = .ok (.invokevirtual 306, 3) := by decide +kernel
theorem dL_law_2483 : decode cL_law 2483 = .ok (.if_icmp .eq 565, 3) := by decide +kernel
theorem dL_law_2486 : decode cL_law 2486 = .ok (.iconst 0, 1) := by decide +kernel
theorem dL_law_2487 : decode cL_law 2487 = .ok (.ireturn, 1) := by decide +kernel
theorem dL_law_2488 : decode cL_law 2488 = .ok (.aload_n 1, 1) := by decide +kernel
theorem dL_law_2489 : decode cL_law 2489 = .ok (.invokevirtual 307, 3) := by decide +kernel
theorem dL_law_2492 : decode cL_law 2492 = .ok (.aload_n 2, 1) := by decide +kernel
theorem dL_law_2493 : decode cL_law 2493 = .ok (.invokevirtual 310, 3) := by decide +kernel
theorem dL_law_2496 : decode cL_law 2496 = .ok (.if_icmp .eq 552, 3) := by decide +kernel
theorem dL_law_2499 : decode cL_law 2499 = .ok (.iconst 0, 1) := by decide +kernel
theorem dL_law_2500 : decode cL_law 2500 = .ok (.ireturn, 1) := by decide +kernel
theorem dL_law_2501 : decode cL_law 2501 = .ok (.aload_n 1, 1) := by decide +kernel
theorem dL_law_2502 : decode cL_law 2502 = .ok (.aload_n 0, 1) := by decide +kernel
theorem dL_law_2503 : decode cL_law 2503 = .ok (.iload 5, 2) := by decide +kernel
theorem dL_law_2505 : decode cL_law 2505 = .ok (.iconst 1, 1) := by decide +kernel
theorem dL_law_2506 : decode cL_law 2506 = .ok (.iadd, 1) := by decide +kernel
theorem dL_law_2507 : decode cL_law 2507 = .ok (.iaload, 1) := by decide +kernel
theorem dL_law_2508 : decode cL_law 2508 = .ok (.aload_n 3, 1) := by decide +kernel
theorem dL_law_2509 : decode cL_law 2509 = .ok (.invokestatic 311, 3) := by decide +kernel
theorem dL_law_2512 : decode cL_law 2512 = .ok (.istore 6, 2) := by decide +kernel
theorem dL_law_2514 : decode cL_law 2514 = .ok (.aload_n 2, 1) := by decide +kernel
theorem dL_law_2515 : decode cL_law 2515 = .ok (.aload_n 0, 1) := by decide +kernel
theorem dL_law_2516 : decode cL_law 2516 = .ok (.iload 5, 2) := by decide +kernel
theorem dL_law_2518 : decode cL_law 2518 = .ok (.iconst 1, 1) := by decide +kernel
theorem dL_law_2519 : decode cL_law 2519 = .ok (.iadd, 1) := by decide +kernel
theorem dL_law_2520 : decode cL_law 2520 = .ok (.iaload, 1) := by decide +kernel
theorem dL_law_2521 : decode cL_law 2521 = .ok (.invokevirtual 313, 3) := by decide +kernel
theorem dL_law_2524 : decode cL_law 2524 = .ok (.istore 7, 2) := by decide +kernel
theorem dL_law_2526 : decode cL_law 2526 = .ok (.aload_n 2, 1) := by decide +kernel
theorem dL_law_2527 : decode cL_law 2527 = .ok (.invokevirtual 156, 3) := by decide +kernel
theorem dL_law_2530 : decode cL_law 2530 = .ok (.iload 6, 2) := by decide +kernel
theorem dL_law_2532 : decode cL_law 2532 = .ok (.if_icmp .eq 5, 3) := by decide +kernel
theorem dL_law_2535 : decode cL_law 2535 = .ok (.iconst 0, 1) := by decide +kernel
theorem dL_law_2536 : decode cL_law 2536 = .ok (.ireturn, 1) := by decide +kernel
theorem dL_law_2537 : decode cL_law 2537 = .ok (.iload 6, 2) := by decide +kernel
theorem dL_law_2539 : decode cL_law 2539 = .ok (.ifCond .ne 15, 3) := by decide +kernel
theorem dL_law_2542 : decode cL_law 2542 = .ok (.aload_n 3, 1) := by decide +kernel
theorem dL_law_2543 : decode cL_law 2543 = .ok (.iconst 0, 1) := by decide +kernel
theorem dL_law_2544 : decode cL_law 2544 = .ok (.laload, 1) := by decide +kernel
theorem dL_law_2545 : decode cL_law 2545 = .ok (.iload 7, 2) := by decide +kernel
theorem dL_law_2547 : decode cL_law 2547 = .ok (.i2l, 1) := by decide +kernel
theorem dL_law_2548 : decode cL_law 2548 = .ok (.lcmp, 1) := by decide +kernel
theorem dL_law_2549 : decode cL_law 2549 = .ok (.ifCond .eq 5, 3) := by decide +kernel
theorem dL_law_2552 : decode cL_law 2552 = .ok (.iconst 0, 1) := by decide +kernel
theorem dL_law_2553 : decode cL_law 2553 = .ok (.ireturn, 1) := by decide +kernel
theorem dL_law_2554 : decode cL_law 2554 = .ok (.goto 494, 3) := by decide +kernel
theorem dL_law_2557 : decode cL_law 2557 = .ok (.aload_n 1, 1) := by decide +kernel
theorem dL_law_2558 : decode cL_law 2558 = .ok (.invokevirtual 314, 3) := by decide +kernel
theorem dL_law_2561 : decode cL_law 2561 = .ok (.aload_n 2, 1) := by decide +kernel
theorem dL_law_2562 : decode cL_law 2562 = .ok (.invokevirtual 317, 3) := by decide +kernel
theorem dL_law_2565 : decode cL_law 2565 = .ok (.if_icmp .eq 483, 3) := by decide +kernel
theorem dL_law_2568 : decode cL_law 2568 = .ok (.iconst 0, 1) := by decide +kernel
theorem dL_law_2569 : decode cL_law 2569 = .ok (.ireturn, 1) := by decide +kernel
theorem dL_law_2570 : decode cL_law 2570 = .ok (.aload_n 1, 1) := by decide +kernel
theorem dL_law_2571 : decode cL_law 2571 = .ok (.aload_n 0, 1) := by decide +kernel
theorem dL_law_2572 : decode cL_law 2572 = .ok (.iload 5, 2) := by decide +kernel
theorem dL_law_2574 : decode cL_law 2574 = .ok (.iconst 1, 1) := by decide +kernel
theorem dL_law_2575 : decode cL_law 2575 = .ok (.iadd, 1) := by decide +kernel
theorem dL_law_2576 : decode cL_law 2576 = .ok (.iaload, 1) := by decide +kernel
theorem dL_law_2577 : decode cL_law 2577 = .ok (.aload_n 3, 1) := by decide +kernel
theorem dL_law_2578 : decode cL_law 2578 = .ok (.invokestatic 318, 3) := by decide +kernel
theorem dL_law_2581 : decode cL_law 2581 = .ok (.istore 6, 2) := by decide +kernel
theorem dL_law_2583 : decode cL_law 2583 = .ok (.aload_n 2, 1) := by decide +kernel
theorem dL_law_2584 : decode cL_law 2584 = .ok (.aload_n 0, 1) := by decide +kernel
theorem dL_law_2585 : decode cL_law 2585 = .ok (.iload 5, 2) := by decide +kernel
theorem dL_law_2587 : decode cL_law 2587 = .ok (.iconst 1, 1) := by decide +kernel
theorem dL_law_2588 : decode cL_law 2588 = .ok (.iadd, 1) := by decide +kernel
theorem dL_law_2589 : decode cL_law 2589 = .ok (.iaload, 1) := by decide +kernel
theorem dL_law_2590 : decode cL_law 2590 = .ok (.invokevirtual 320, 3) := by decide +kernel
theorem dL_law_2593 : decode cL_law 2593 = .ok (.istore 7, 2) := by decide +kernel
theorem dL_law_2595 : decode cL_law 2595 = .ok (.aload_n 2, 1) := by decide +kernel
theorem dL_law_2596 : decode cL_law 2596 = .ok (.invokevirtual 156, 3) := by decide +kernel
theorem dL_law_2599 : decode cL_law 2599 = .ok (.iload 6, 2) := by decide +kernel
theorem dL_law_2601 : decode cL_law 2601 = .ok (.if_icmp .eq 5, 3) := by decide +kernel
theorem dL_law_2604 : decode cL_law 2604 = .ok (.iconst 0, 1) := by decide +kernel
theorem dL_law_2605 : decode cL_law 2605 = .ok (.ireturn, 1) := by decide +kernel
theorem dL_law_2606 : decode cL_law 2606 = .ok (.iload 6, 2) := by decide +kernel
theorem dL_law_2608 : decode cL_law 2608 = .ok (.ifCond .ne 15, 3) := by decide +kernel
theorem dL_law_2611 : decode cL_law 2611 = .ok (.aload_n 3, 1) := by decide +kernel
theorem dL_law_2612 : decode cL_law 2612 = .ok (.iconst 0, 1) := by decide +kernel
theorem dL_law_2613 : decode cL_law 2613 = .ok (.laload, 1) := by decide +kernel
theorem dL_law_2614 : decode cL_law 2614 = .ok (.iload 7, 2) := by decide +kernel
theorem dL_law_2616 : decode cL_law 2616 = .ok (.i2l, 1) := by decide +kernel
theorem dL_law_2617 : decode cL_law 2617 = .ok (.lcmp, 1) := by decide +kernel
theorem dL_law_2618 : decode cL_law 2618 = .ok (.ifCond .eq 5, 3) := by decide +kernel
theorem dL_law_2621 : decode cL_law 2621 = .ok (.iconst 0, 1) := by decide +kernel
theorem dL_law_2622 : decode cL_law 2622 = .ok (.ireturn, 1) := by decide +kernel
theorem dL_law_2623 : decode cL_law 2623 = .ok (.goto 425, 3) := by decide +kernel
theorem dL_law_2626 : decode cL_law 2626 = .ok (.aload_n 1, 1) := by decide +kernel
theorem dL_law_2627 : decode cL_law 2627 = .ok (.aload_n 0, 1) := by decide +kernel
theorem dL_law_2628 : decode cL_law 2628 = .ok (.iload 5, 2) := by decide +kernel
theorem dL_law_2630 : decode cL_law 2630 = .ok (.iconst 1, 1) := by decide +kernel
theorem dL_law_2631 : decode cL_law 2631 = .ok (.iadd, 1) := by decide +kernel
theorem dL_law_2632 : decode cL_law 2632 = .ok (.iaload, 1) := by decide +kernel
theorem dL_law_2633 : decode cL_law 2633 = .ok (.aload_n 0, 1) := by decide +kernel
theorem dL_law_2634 : decode cL_law 2634 = .ok (.iload 5, 2) := by decide +kernel
theorem dL_law_2636 : decode cL_law 2636 = .ok (.iconst 2, 1) := by decide +kernel
theorem dL_law_2637 : decode cL_law 2637 = .ok (.iadd, 1) := by decide +kernel
theorem dL_law_2638 : decode cL_law 2638 = .ok (.iaload, 1) := by decide +kernel
theorem dL_law_2639 : decode cL_law 2639 = .ok (.aload_n 3, 1) := by decide +kernel
theorem dL_law_2640 : decode cL_law 2640 = .ok (.invokestatic 321, 3) := by decide +kernel
theorem dL_law_2643 : decode cL_law 2643 = .ok (.istore 6, 2) := by decide +kernel
theorem dL_law_2645 : decode cL_law 2645 = .ok (.aload_n 2, 1) := by decide +kernel
theorem dL_law_2646 : decode cL_law 2646 = .ok (.aload_n 0, 1) := by decide +kernel
theorem dL_law_2647 : decode cL_law 2647 = .ok (.iload 5, 2) := by decide +kernel
theorem dL_law_2649 : decode cL_law 2649 = .ok (.iconst 1, 1) := by decide +kernel
theorem dL_law_2650 : decode cL_law 2650 = .ok (.iadd, 1) := by decide +kernel
theorem dL_law_2651 : decode cL_law 2651 = .ok (.iaload, 1) := by decide +kernel
theorem dL_law_2652 : decode cL_law 2652 = .ok (.aload_n 0, 1) := by decide +kernel
theorem dL_law_2653 : decode cL_law 2653 = .ok (.iload 5, 2) := by decide +kernel
theorem dL_law_2655 : decode cL_law 2655 = .ok (.iconst 2, 1) := by decide +kernel
theorem dL_law_2656 : decode cL_law 2656 = .ok (.iadd, 1) := by decide +kernel
theorem dL_law_2657 : decode cL_law 2657 = .ok (.iaload, 1) := by decide +kernel
theorem dL_law_2658 : decode cL_law 2658 = .ok (.invokevirtual 323, 3) := by decide +kernel
theorem dL_law_2661 : decode cL_law 2661 = .ok (.istore 7, 2) := by decide +kernel
theorem dL_law_2663 : decode cL_law 2663 = .ok (.aload_n 2, 1) := by decide +kernel
theorem dL_law_2664 : decode cL_law 2664 = .ok (.invokevirtual 156, 3) := by decide +kernel
theorem dL_law_2667 : decode cL_law 2667 = .ok (.iload 6, 2) := by decide +kernel
theorem dL_law_2669 : decode cL_law 2669 = .ok (.if_icmp .eq 5, 3) := by decide +kernel
theorem dL_law_2672 : decode cL_law 2672 = .ok (.iconst 0, 1) := by decide +kernel
theorem dL_law_2673 : decode cL_law 2673 = .ok (.ireturn, 1) := by decide +kernel
theorem dL_law_2674 : decode cL_law 2674 = .ok (.iload 6, 2) := by decide +kernel
theorem dL_law_2676 : decode cL_law 2676 = .ok (.ifCond .ne 15, 3) := by decide +kernel
theorem dL_law_2679 : decode cL_law 2679 = .ok (.aload_n 3, 1) := by decide +kernel
theorem dL_law_2680 : decode cL_law 2680 = .ok (.iconst 0, 1) := by decide +kernel
theorem dL_law_2681 : decode cL_law 2681 = .ok (.laload, 1) := by decide +kernel
theorem dL_law_2682 : decode cL_law 2682 = .ok (.iload 7, 2) := by decide +kernel
theorem dL_law_2684 : decode cL_law 2684 = .ok (.i2l, 1) := by decide +kernel
theorem dL_law_2685 : decode cL_law 2685 = .ok (.lcmp, 1) := by decide +kernel
theorem dL_law_2686 : decode cL_law 2686 = .ok (.ifCond .eq 5, 3) := by decide +kernel
theorem dL_law_2689 : decode cL_law 2689 = .ok (.iconst 0, 1) := by decide +kernel
theorem dL_law_2690 : decode cL_law 2690 = .ok (.ireturn, 1) := by decide +kernel
theorem dL_law_2691 : decode cL_law 2691 = .ok (.goto 357, 3) := by decide +kernel
theorem dL_law_2694 : decode cL_law 2694 = .ok (.aload_n 1, 1) := by decide +kernel
theorem dL_law_2695 : decode cL_law 2695 = .ok (.invokevirtual 324, 3) := by decide +kernel
theorem dL_law_2698 : decode cL_law 2698 = .ok (.aload_n 2, 1) := by decide +kernel
theorem dL_law_2699 : decode cL_law 2699 = .ok (.invokevirtual 327, 3) := by decide +kernel
theorem dL_law_2702 : decode cL_law 2702 = .ok (.if_icmp .eq 346, 3) := by decide +kernel
theorem dL_law_2705 : decode cL_law 2705 = .ok (.iconst 0, 1) := by decide +kernel
theorem dL_law_2706 : decode cL_law 2706 = .ok (.ireturn, 1) := by decide +kernel
theorem dL_law_2707 : decode cL_law 2707 = .ok (.aload_n 1, 1) := by decide +kernel
theorem dL_law_2708 : decode cL_law 2708 = .ok (.invokevirtual 328, 3) := by decide +kernel
theorem dL_law_2711 : decode cL_law 2711 = .ok (.aload_n 2, 1) := by decide +kernel
theorem dL_law_2712 : decode cL_law 2712 = .ok (.invokevirtual 331, 3) := by decide +kernel
theorem dL_law_2715 : decode cL_law 2715 = .ok (.if_icmp .eq 333, 3) := by decide +kernel
theorem dL_law_2718 : decode cL_law 2718 = .ok (.iconst 0, 1) := by decide +kernel
theorem dL_law_2719 : decode cL_law 2719 = .ok (.ireturn, 1) := by decide +kernel
theorem dL_law_2720 : decode cL_law 2720 = .ok (.aload_n 1, 1) := by decide +kernel
theorem dL_law_2721 : decode cL_law 2721 = .ok (.aload_n 0, 1) := by decide +kernel
theorem dL_law_2722 : decode cL_law 2722 = .ok (.iload 5, 2) := by decide +kernel
theorem dL_law_2724 : decode cL_law 2724 = .ok (.iconst 1, 1) := by decide +kernel
theorem dL_law_2725 : decode cL_law 2725 = .ok (.iadd, 1) := by decide +kernel
theorem dL_law_2726 : decode cL_law 2726 = .ok (.iaload, 1) := by decide +kernel
theorem dL_law_2727 : decode cL_law 2727 = .ok (.aload_n 0, 1) := by decide +kernel
theorem dL_law_2728 : decode cL_law 2728 = .ok (.iload 5, 2) := by decide +kernel
theorem dL_law_2730 : decode cL_law 2730 = .ok (.iconst 2, 1) := by decide +kernel
theorem dL_law_2731 : decode cL_law 2731 = .ok (.iadd, 1) := by decide +kernel
theorem dL_law_2732 : decode cL_law 2732 = .ok (.iaload, 1) := by decide +kernel
theorem dL_law_2733 : decode cL_law 2733 = .ok (.aload_n 3, 1) := by decide +kernel
theorem dL_law_2734 : decode cL_law 2734 = .ok (.invokestatic 332, 3) := by decide +kernel
theorem dL_law_2737 : decode cL_law 2737 = .ok (.istore 6, 2) := by decide +kernel
theorem dL_law_2739 : decode cL_law 2739 = .ok (.aload_n 2, 1) := by decide +kernel
theorem dL_law_2740 : decode cL_law 2740 = .ok (.aload_n 0, 1) := by decide +kernel
theorem dL_law_2741 : decode cL_law 2741 = .ok (.iload 5, 2) := by decide +kernel
theorem dL_law_2743 : decode cL_law 2743 = .ok (.iconst 1, 1) := by decide +kernel
theorem dL_law_2744 : decode cL_law 2744 = .ok (.iadd, 1) := by decide +kernel
theorem dL_law_2745 : decode cL_law 2745 = .ok (.iaload, 1) := by decide +kernel
theorem dL_law_2746 : decode cL_law 2746 = .ok (.aload_n 0, 1) := by decide +kernel
theorem dL_law_2747 : decode cL_law 2747 = .ok (.iload 5, 2) := by decide +kernel
theorem dL_law_2749 : decode cL_law 2749 = .ok (.iconst 2, 1) := by decide +kernel
theorem dL_law_2750 : decode cL_law 2750 = .ok (.iadd, 1) := by decide +kernel
theorem dL_law_2751 : decode cL_law 2751 = .ok (.iaload, 1) := by decide +kernel
theorem dL_law_2752 : decode cL_law 2752 = .ok (.invokevirtual 334, 3) := by decide +kernel
theorem dL_law_2755 : decode cL_law 2755 = .ok (.istore 7, 2) := by decide +kernel
theorem dL_law_2757 : decode cL_law 2757 = .ok (.aload_n 2, 1) := by decide +kernel
theorem dL_law_2758 : decode cL_law 2758 = .ok (.invokevirtual 156, 3) := by decide +kernel
theorem dL_law_2761 : decode cL_law 2761 = .ok (.iload 6, 2) := by decide +kernel
theorem dL_law_2763 : decode cL_law 2763 = .ok (.if_icmp .eq 5, 3) := by decide +kernel
theorem dL_law_2766 : decode cL_law 2766 = .ok (.iconst 0, 1) := by decide +kernel
theorem dL_law_2767 : decode cL_law 2767 = .ok (.ireturn, 1) := by decide +kernel
theorem dL_law_2768 : decode cL_law 2768 = .ok (.iload 6, 2) := by decide +kernel
theorem dL_law_2770 : decode cL_law 2770 = .ok (.ifCond .ne 15, 3) := by decide +kernel
theorem dL_law_2773 : decode cL_law 2773 = .ok (.aload_n 3, 1) := by decide +kernel
theorem dL_law_2774 : decode cL_law 2774 = .ok (.iconst 0, 1) := by decide +kernel
theorem dL_law_2775 : decode cL_law 2775 = .ok (.laload, 1) := by decide +kernel
theorem dL_law_2776 : decode cL_law 2776 = .ok (.iload 7, 2) := by decide +kernel
theorem dL_law_2778 : decode cL_law 2778 = .ok (.i2l, 1) := by decide +kernel
theorem dL_law_2779 : decode cL_law 2779 = .ok (.lcmp, 1) := by decide +kernel
theorem dL_law_2780 : decode cL_law 2780 = .ok (.ifCond .eq 5, 3) := by decide +kernel
theorem dL_law_2783 : decode cL_law 2783 = .ok (.iconst 0, 1) := by decide +kernel
theorem dL_law_2784 : decode cL_law 2784 = .ok (.ireturn, 1) := by decide +kernel
theorem dL_law_2785 : decode cL_law 2785 = .ok (.goto 263, 3) := by decide +kernel
theorem dL_law_2788 : decode cL_law 2788 = .ok (.aload_n 1, 1) := by decide +kernel
theorem dL_law_2789 : decode cL_law 2789 = .ok (.aload_n 0, 1) := by decide +kernel
theorem dL_law_2790 : decode cL_law 2790 = .ok (.iload 5, 2) := by decide +kernel
theorem dL_law_2792 : decode cL_law 2792 = .ok (.iconst 1, 1) := by decide +kernel
theorem dL_law_2793 : decode cL_law 2793 = .ok (.iadd, 1) := by decide +kernel
theorem dL_law_2794 : decode cL_law 2794 = .ok (.iaload, 1) := by decide +kernel
theorem dL_law_2795 : decode cL_law 2795 = .ok (.aload 4, 2) := by decide +kernel
theorem dL_law_2797 : decode cL_law 2797 = .ok (.invokestatic 335, 3) := by decide +kernel
theorem dL_law_2800 : decode cL_law 2800 = .ok (.istore 6, 2) := by decide +kernel
theorem dL_law_2802 : decode cL_law 2802 = .ok (.aload_n 2, 1) := by decide +kernel
theorem dL_law_2803 : decode cL_law 2803 = .ok (.aload_n 0, 1) := by decide +kernel
theorem dL_law_2804 : decode cL_law 2804 = .ok (.iload 5, 2) := by decide +kernel
theorem dL_law_2806 : decode cL_law 2806 = .ok (.iconst 1, 1) := by decide +kernel
theorem dL_law_2807 : decode cL_law 2807 = .ok (.iadd, 1) := by decide +kernel
theorem dL_law_2808 : decode cL_law 2808 = .ok (.iaload, 1) := by decide +kernel
theorem dL_law_2809 : decode cL_law 2809 = .ok (.invokevirtual 337, 3) := by decide +kernel
theorem dL_law_2812 : decode cL_law 2812 = .ok (.dstore 7, 2) := by decide +kernel
theorem dL_law_2814 : decode cL_law 2814 = .ok (.aload_n 2, 1) := by decide +kernel
theorem dL_law_2815 : decode cL_law 2815 = .ok (.invokevirtual 156, 3) := by decide +kernel
theorem dL_law_2818 : decode cL_law 2818 = .ok (.iload 6, 2) := by decide +kernel
theorem dL_law_2820 : decode cL_law 2820 = .ok (.if_icmp .eq 5, 3) := by decide +kernel
theorem dL_law_2823 : decode cL_law 2823 = .ok (.iconst 0, 1) := by decide +kernel
theorem dL_law_2824 : decode cL_law 2824 = .ok (.ireturn, 1) := by decide +kernel
theorem dL_law_2825 : decode cL_law 2825 = .ok (.iload 6, 2) := by decide +kernel
theorem dL_law_2827 : decode cL_law 2827 = .ok (.ifCond .ne 35, 3) := by decide +kernel
theorem dL_law_2830 : decode cL_law 2830 = .ok (.aload 4, 2) := by decide +kernel
theorem dL_law_2832 : decode cL_law 2832 = .ok (.iconst 0, 1) := by decide +kernel
theorem dL_law_2833 : decode cL_law 2833 = .ok (.daload, 1) := by decide +kernel
theorem dL_law_2834 : decode cL_law 2834 = .ok (.dload 7, 2) := by decide +kernel
theorem dL_law_2836 : decode cL_law 2836 = .ok (.dcmp .l, 1) := by decide +kernel
theorem dL_law_2837 : decode cL_law 2837 = .ok (.ifCond .eq 25, 3) := by decide +kernel
theorem dL_law_2840 : decode cL_law 2840 = .ok (.aload 4, 2) := by decide +kernel
theorem dL_law_2842 : decode cL_law 2842 = .ok (.iconst 0, 1) := by decide +kernel
theorem dL_law_2843 : decode cL_law 2843 = .ok (.daload, 1) := by decide +kernel
theorem dL_law_2844 : decode cL_law 2844 = .ok (.aload 4, 2) := by decide +kernel
theorem dL_law_2846 : decode cL_law 2846 = .ok (.iconst 0, 1) := by decide +kernel
theorem dL_law_2847 : decode cL_law 2847 = .ok (.daload, 1) := by decide +kernel
theorem dL_law_2848 : decode cL_law 2848 = .ok (.dcmp .l, 1) := by decide +kernel
theorem dL_law_2849 : decode cL_law 2849 = .ok (.ifCond .eq 11, 3) := by decide +kernel
theorem dL_law_2852 : decode cL_law 2852 = .ok (.dload 7, 2) := by decide +kernel
theorem dL_law_2854 : decode cL_law 2854 = .ok (.dload 7, 2) := by decide +kernel
theorem dL_law_2856 : decode cL_law 2856 = .ok (.dcmp .l, 1) := by decide +kernel
theorem dL_law_2857 : decode cL_law 2857 = .ok (.ifCond .ne 5, 3) := by decide +kernel
theorem dL_law_2860 : decode cL_law 2860 = .ok (.iconst 0, 1) := by decide +kernel
theorem dL_law_2861 : decode cL_law 2861 = .ok (.ireturn, 1) := by decide +kernel
theorem dL_law_2862 : decode cL_law 2862 = .ok (.goto 186, 3) := by decide +kernel
theorem dL_law_2865 : decode cL_law 2865 = .ok (.aload_n 1, 1) := by decide +kernel
theorem dL_law_2866 : decode cL_law 2866 = .ok (.aload_n 3, 1) := by decide +kernel
theorem dL_law_2867 : decode cL_law 2867 = .ok (.invokestatic 338, 3) := by decide +kernel
theorem dL_law_2870 : decode cL_law 2870 = .ok (.istore 6, 2) := by decide +kernel
theorem dL_law_2872 : decode cL_law 2872 = .ok (.aload_n 2, 1) := by decide +kernel
theorem dL_law_2873 : decode cL_law 2873 = .ok (.invokevirtual 341, 3) := by decide +kernel
theorem dL_law_2876 : decode cL_law 2876 = .ok (.istore 7, 2) := by decide +kernel
theorem dL_law_2878 : decode cL_law 2878 = .ok (.aload_n 2, 1) := by decide +kernel
theorem dL_law_2879 : decode cL_law 2879 = .ok (.invokevirtual 156, 3) := by decide +kernel
theorem dL_law_2882 : decode cL_law 2882 = .ok (.iload 6, 2) := by decide +kernel
theorem dL_law_2884 : decode cL_law 2884 = .ok (.if_icmp .eq 5, 3) := by decide +kernel
theorem dL_law_2887 : decode cL_law 2887 = .ok (.iconst 0, 1) := by decide +kernel
theorem dL_law_2888 : decode cL_law 2888 = .ok (.ireturn, 1) := by decide +kernel
theorem dL_law_2889 : decode cL_law 2889 = .ok (.iload 6, 2) := by decide +kernel
theorem dL_law_2891 : decode cL_law 2891 = .ok (.ifCond .ne 15, 3) := by decide +kernel
theorem dL_law_2894 : decode cL_law 2894 = .ok (.aload_n 3, 1) := by decide +kernel
theorem dL_law_2895 : decode cL_law 2895 = .ok (.iconst 0, 1) := by decide +kernel
theorem dL_law_2896 : decode cL_law 2896 = .ok (.laload, 1) := by decide +kernel
theorem dL_law_2897 : decode cL_law 2897 = .ok (.iload 7, 2) := by decide +kernel
theorem dL_law_2899 : decode cL_law 2899 = .ok (.i2l, 1) := by decide +kernel
theorem dL_law_2900 : decode cL_law 2900 = .ok (.lcmp, 1) := by decide +kernel
theorem dL_law_2901 : decode cL_law 2901 = .ok (.ifCond .eq 5, 3) := by decide +kernel
theorem dL_law_2904 : decode cL_law 2904 = .ok (.iconst 0, 1) := by decide +kernel
theorem dL_law_2905 : decode cL_law 2905 = .ok (.ireturn, 1) := by decide +kernel
theorem dL_law_2906 : decode cL_law 2906 = .ok (.goto 142, 3) := by decide +kernel
theorem dL_law_2909 : decode cL_law 2909 = .ok (.aload_n 1, 1) := by decide +kernel
theorem dL_law_2910 : decode cL_law 2910 = .ok (.invokevirtual 342, 3) := by decide +kernel
theorem dL_law_2913 : decode cL_law 2913 = .ok (.aload_n 2, 1) := by decide +kernel
theorem dL_law_2914 : decode cL_law 2914 = .ok (.invokevirtual 345, 3) := by decide +kernel
theorem dL_law_2917 : decode cL_law 2917 = .ok (.if_icmp .eq 131, 3) := by decide +kernel
theorem dL_law_2920 : decode cL_law 2920 = .ok (.iconst 0, 1) := by decide +kernel
theorem dL_law_2921 : decode cL_law 2921 = .ok (.ireturn, 1) := by decide +kernel
theorem dL_law_2922 : decode cL_law 2922 = .ok (.aload_n 1, 1) := by decide +kernel
theorem dL_law_2923 : decode cL_law 2923 = .ok (.aload_n 3, 1) := by decide +kernel
theorem dL_law_2924 : decode cL_law 2924 = .ok (.invokestatic 346, 3) := by decide +kernel
theorem dL_law_2927 : decode cL_law 2927 = .ok (.istore 6, 2) := by decide +kernel
theorem dL_law_2929 : decode cL_law 2929 = .ok (.aload_n 2, 1) := by decide +kernel
theorem dL_law_2930 : decode cL_law 2930 = .ok (.invokevirtual 348, 3) := by decide +kernel
theorem dL_law_2933 : decode cL_law 2933 = .ok (.istore 7, 2) := by decide +kernel
theorem dL_law_2935 : decode cL_law 2935 = .ok (.aload_n 2, 1) := by decide +kernel
theorem dL_law_2936 : decode cL_law 2936 = .ok (.invokevirtual 156, 3) := by decide +kernel
theorem dL_law_2939 : decode cL_law 2939 = .ok (.iload 6, 2) := by decide +kernel
theorem dL_law_2941 : decode cL_law 2941 = .ok (.if_icmp .eq 5, 3) := by decide +kernel
theorem dL_law_2944 : decode cL_law 2944 = .ok (.iconst 0, 1) := by decide +kernel
theorem dL_law_2945 : decode cL_law 2945 = .ok (.ireturn, 1) := by decide +kernel
theorem dL_law_2946 : decode cL_law 2946 = .ok (.iload 6, 2) := by decide +kernel
theorem dL_law_2948 : decode cL_law 2948 = .ok (.ifCond .ne 15, 3) := by decide +kernel
theorem dL_law_2951 : decode cL_law 2951 = .ok (.aload_n 3, 1) := by decide +kernel
theorem dL_law_2952 : decode cL_law 2952 = .ok (.iconst 0, 1) := by decide +kernel
theorem dL_law_2953 : decode cL_law 2953 = .ok (.laload, 1) := by decide +kernel
theorem dL_law_2954 : decode cL_law 2954 = .ok (.iload 7, 2) := by decide +kernel
theorem dL_law_2956 : decode cL_law 2956 = .ok (.i2l, 1) := by decide +kernel
theorem dL_law_2957 : decode cL_law 2957 = .ok (.lcmp, 1) := by decide +kernel
theorem dL_law_2958 : decode cL_law 2958 = .ok (.ifCond .eq 5, 3) := by decide +kernel
theorem dL_law_2961 : decode cL_law 2961 = .ok (.iconst 0, 1) := by decide +kernel
theorem dL_law_2962 : decode cL_law 2962 = .ok (.ireturn, 1) := by decide +kernel
theorem dL_law_2963 : decode cL_law 2963 = .ok (.goto 85, 3) := by decide +kernel
theorem dL_law_2966 : decode cL_law 2966 = .ok (.aload_n 1, 1) := by decide +kernel
theorem dL_law_2967 : decode cL_law 2967 = .ok (.invokevirtual 349, 3) := by decide +kernel
theorem dL_law_2970 : decode cL_law 2970 = .ok (.aload_n 2, 1) := by decide +kernel
theorem dL_law_2971 : decode cL_law 2971 = .ok (.invokevirtual 352, 3) := by decide +kernel
theorem dL_law_2974 : decode cL_law 2974 = .ok (.if_icmp .eq 74, 3) := by decide +kernel
theorem dL_law_2977 : decode cL_law 2977 = .ok (.iconst 0, 1) := by decide +kernel
theorem dL_law_2978 : decode cL_law 2978 = .ok (.ireturn, 1) := by decide +kernel
theorem dL_law_2979 : decode cL_law 2979 = .ok (.aload_n 1, 1) := by decide +kernel
theorem dL_law_2980 : decode cL_law 2980 = .ok (.invokevirtual 353, 3) := by decide +kernel
theorem dL_law_2983 : decode cL_law 2983 = .ok (.aload_n 2, 1) := by decide +kernel
theorem dL_law_2984 : decode cL_law 2984 = .ok (.invokevirtual 356, 3) := by decide +kernel
theorem dL_law_2987 : decode cL_law 2987 = .ok (.if_icmp .eq 61, 3) := by decide +kernel
theorem dL_law_2990 : decode cL_law 2990 = .ok (.iconst 0, 1) := by decide +kernel
theorem dL_law_2991 : decode cL_law 2991 = .ok (.ireturn, 1) := by decide +kernel
theorem dL_law_2992 : decode cL_law 2992 = .ok (.aload_n 1, 1) := by decide +kernel
theorem dL_law_2993 : decode cL_law 2993 = .ok (.aload_n 0, 1) := by decide +kernel
theorem dL_law_2994 : decode cL_law 2994 = .ok (.iload 5, 2) := by decide +kernel
theorem dL_law_2996 : decode cL_law 2996 = .ok (.iconst 1, 1) := by decide +kernel
theorem dL_law_2997 : decode cL_law 2997 = .ok (.iadd, 1) := by decide +kernel
theorem dL_law_2998 : decode cL_law 2998 = .ok (.iaload, 1) := by decide +kernel
theorem dL_law_2999 : decode cL_law 2999 = .ok (.aload_n 3, 1) := by decide +kernel
theorem dL_law_3000 : decode cL_law 3000 = .ok (.invokestatic 357, 3) := by decide +kernel
theorem dL_law_3003 : decode cL_law 3003 = .ok (.istore 6, 2) := by decide +kernel
theorem dL_law_3005 : decode cL_law 3005 = .ok (.aload_n 2, 1) := by decide +kernel
theorem dL_law_3006 : decode cL_law 3006 = .ok (.aload_n 0, 1) := by decide +kernel
theorem dL_law_3007 : decode cL_law 3007 = .ok (.iload 5, 2) := by decide +kernel
theorem dL_law_3009 : decode cL_law 3009 = .ok (.iconst 1, 1) := by decide +kernel
theorem dL_law_3010 : decode cL_law 3010 = .ok (.iadd, 1) := by decide +kernel
theorem dL_law_3011 : decode cL_law 3011 = .ok (.iaload, 1) := by decide +kernel
theorem dL_law_3012 : decode cL_law 3012 = .ok (.invokevirtual 359, 3) := by decide +kernel
theorem dL_law_3015 : decode cL_law 3015 = .ok (.istore 7, 2) := by decide +kernel
theorem dL_law_3017 : decode cL_law 3017 = .ok (.aload_n 2, 1) := by decide +kernel
theorem dL_law_3018 : decode cL_law 3018 = .ok (.invokevirtual 156, 3) := by decide +kernel
theorem dL_law_3021 : decode cL_law 3021 = .ok (.iload 6, 2) := by decide +kernel
theorem dL_law_3023 : decode cL_law 3023 = .ok (.if_icmp .eq 5, 3) := by decide +kernel
theorem dL_law_3026 : decode cL_law 3026 = .ok (.iconst 0, 1) := by decide +kernel
theorem dL_law_3027 : decode cL_law 3027 = .ok (.ireturn, 1) := by decide +kernel
theorem dL_law_3028 : decode cL_law 3028 = .ok (.iload 6, 2) := by decide +kernel
theorem dL_law_3030 : decode cL_law 3030 = .ok (.ifCond .ne 15, 3) := by decide +kernel
theorem dL_law_3033 : decode cL_law 3033 = .ok (.aload_n 3, 1) := by decide +kernel
theorem dL_law_3034 : decode cL_law 3034 = .ok (.iconst 0, 1) := by decide +kernel
theorem dL_law_3035 : decode cL_law 3035 = .ok (.laload, 1) := by decide +kernel
theorem dL_law_3036 : decode cL_law 3036 = .ok (.iload 7, 2) := by decide +kernel
theorem dL_law_3038 : decode cL_law 3038 = .ok (.i2l, 1) := by decide +kernel
theorem dL_law_3039 : decode cL_law 3039 = .ok (.lcmp, 1) := by decide +kernel
theorem dL_law_3040 : decode cL_law 3040 = .ok (.ifCond .eq 5, 3) := by decide +kernel
theorem dL_law_3043 : decode cL_law 3043 = .ok (.iconst 0, 1) := by decide +kernel
theorem dL_law_3044 : decode cL_law 3044 = .ok (.ireturn, 1) := by decide +kernel
theorem dL_law_3045 : decode cL_law 3045 = .ok (.goto 3, 3) := by decide +kernel
theorem dL_law_3048 : decode cL_law 3048 = .ok (.iinc 5 6, 3) := by decide +kernel
theorem dL_law_3051 : decode cL_law 3051 = .ok (.goto (-3023), 3) := by decide +kernel
theorem dL_law_3054 : decode cL_law 3054 = .ok (.iconst 1, 1) := by decide +kernel
theorem dL_law_3055 : decode cL_law 3055 = .ok (.ireturn, 1) := by decide +kernel
