theorem dL_law_1892 : decode cL_law 1892 = .ok (.invokevirtual 84, 3) := by decide +kernel
theorem dL_law_1895 : decode cL_law 1895 = .ok (.istore 21, 2) := by decide +kernel
theorem dL_law_1897 : decode cL_law 1897 = .ok (.iload 20, 2) := by decide +kernel
theorem dL_law_1899 : decode cL_law 1899 = .ok (.bipush 8, 2) := by decide +kernel
theorem dL_law_1901 : decode cL_law 1901 = .ok (.if_icmp .ge 127, 3) := by decide +kernel
theorem dL_law_1904 : decode cL_law 1904 = .ok (.aload_n 1, 1) := by decide +kernel
theorem dL_law_1905 : decode cL_law 1905 = .ok (.iconst 1, 1) := by decide +kernel
theorem dL_law_1906 : decode cL_law 1906 = .ok (.invokevirtual 87, 3) := by decide +kernel
theorem dL_law_1909 : decode cL_law 1909 = .ok (.iload 21, 2) := by decide +kernel
theorem dL_law_1911 : decode cL_law 1911 = .ok (.if_icmp .ge 117, 3) := by decide +kernel
theorem dL_law_1914 : decode cL_law 1914 = .ok (.aload_n 1, 1) := by decide +kernel
theorem dL_law_1915 : decode cL_law 1915 = .ok (.iconst 0, 1) := by decide +kernel
theorem dL_law_1916 : decode cL_law 1916 = .ok (.invokevirtual 87, 3) := by decide +kernel
theorem dL_law_1919 : decode cL_law 1919 = .ok (.istore 22, 2) := by decide +kernel
theorem dL_law_1921 : decode cL_law 1921 = .ok (.aload_n 1, 1) := by decide +kernel
theorem dL_law_1922 : decode cL_law 1922 = .ok (.iconst 1, 1) := by decide +kernel
theorem dL_law_1923 : decode cL_law 1923 = .ok (.invokevirtual 87, 3) := by decide +kernel
theorem dL_law_1926 : decode cL_law 1926 = .ok (.istore 23, 2) := by decide +kernel
theorem dL_law_1928 : decode cL_law 1928 = .ok (.iinc 20 1, 3) := by decide +kernel
theorem dL_law_1931 : decode cL_law 1931 = .ok (.aload_n 1, 1) := by decide +kernel
theorem dL_law_1932 : decode cL_law 1932 = .ok (.iload 22, 2) := by decide +kernel
theorem dL_law_1934 : decode cL_law 1934 = .ok (.aload_n 1, 1) := by decide +kernel
theorem dL_law_1935 : decode cL_law 1935 = .ok (.iload 18, 2) := by decide +kernel
theorem dL_law_1937 : decode cL_law 1937 = .ok (.iload 22, 2) := by decide +kernel
theorem dL_law_1939 : decode cL_law 1939 = .ok (.iload 19, 2) := by decide +kernel
theorem dL_law_1941 : decode cL_law 1941 = .ok (.idiv, 1) := by decide +kernel
theorem dL_law_1942 : decode cL_law 1942 = .ok (.invokevirtual 81, 3) := by decide +kernel
theorem dL_law_1945 : decode cL_law 1945 = .ok (.invokevirtual 90, 3) := by decide +kernel
theorem dL_law_1948 : decode cL_law 1948 = .ok (.iload 20, 2) := by decide +kernel
theorem dL_law_1950 : decode cL_law 1950 = .ok (.if_icmp .ne 13, 3) := by decide +kernel
theorem dL_law_1953 : decode cL_law 1953 = .ok (.aload_n 1, 1) := by decide +kernel
theorem dL_law_1954 : decode cL_law 1954 = .ok (.iconst (-1), 1) := by decide +kernel
theorem dL_law_1955 : decode cL_law 1955 = .ok (.invokevirtual 84, 3) := by decide +kernel
theorem dL_law_1958 : decode cL_law 1958 = .ok (.iload 23, 2) := by decide +kernel
theorem dL_law_1960 : decode cL_law 1960 = .ok (.if_icmp .le 5, 3) := by decide +kernel
theorem dL_law_1963 : decode cL_law 1963 = .ok (.iconst 0, 1) := by decide +kernel
theorem dL_law_1964 : decode cL_law 1964 = .ok (.ireturn, 1) := by decide +kernel
theorem dL_law_1965 : decode cL_law 1965 = .ok (.aload_n 1, 1) := by decide +kernel
theorem dL_law_1966 : decode cL_law 1966 = .ok (.iconst (-1), 1) := by decide +kernel
theorem dL_law_1967 : decode cL_law 1967 = .ok (.invokevirtual 84, 3) := by decide +kernel
theorem dL_law_1970 : decode cL_law 1970 = .ok (.istore 21, 2) := by decide +kernel
theorem dL_law_1972 : decode cL_law 1972 = .ok (.iconst 0, 1) := by decide +kernel
theorem dL_law_1973 : decode cL_law 1973 = .ok (.istore 24, 2) := by decide +kernel
theorem dL_law_1975 : decode cL_law 1975 = .ok (.iconst 0, 1) := by decide +kernel
theorem dL_law_1976 : decode cL_law 1976 = .ok (.istore 25, 2) := by decide +kernel
theorem dL_law_1978 : decode cL_law 1978 = .ok (.iload 25, 2) := by decide +kernel
theorem dL_law_1980 : decode cL_law 1980 = .ok (.iload 21, 2) := by decide +kernel
theorem dL_law_1982 : decode cL_law 1982 = .ok (.if_icmp .ge 36, 3) := by decide +kernel
theorem dL_law_1985 : decode cL_law 1985 = .ok (.iload 24, 2) := by decide +kernel
theorem dL_law_1987 : decode cL_law 1987 = .ok (.aload_n 1, 1) := by decide +kernel
theorem dL_law_1988 : decode cL_law 1988 = .ok (.iload 25, 2) := by decide +kernel
theorem dL_law_1990 : decode cL_law 1990 = .ok (.invokevirtual 84, 3) := by decide +kernel
theorem dL_law_1993 : decode cL_law 1993 = .ok (.bipush 10, 2) := by decide +kernel
theorem dL_law_1995 : decode cL_law 1995 = .ok (.iload 18, 2) := by decide +kernel
theorem dL_law_1997 : decode cL_law 1997 = .ok (.imul, 1) := by decide +kernel
theorem dL_law_1998 : decode cL_law 1998 = .ok (.iload 19, 2) := by decide +kernel
theorem dL_law_2000 : decode cL_law 2000 = .ok (.iadd, 1) := by decide +kernel
theorem dL_law_2001 : decode cL_law 2001 = .ok (.if_icmp .ne 7, 3) := by decide +kernel
theorem dL_law_2004 : decode cL_law 2004 = .ok (.iconst 1, 1) := by decide +kernel
theorem dL_law_2005 : decode cL_law 2005 = .ok (.goto 4, 3) := by decide +kernel
theorem dL_law_2008 : decode cL_law 2008 = .ok (.iconst 0, 1) := by decide +kernel
theorem dL_law_2009 : decode cL_law 2009 = .ok (.ior, 1) := by decide +kernel
theorem dL_law_2010 : decode cL_law 2010 = .ok (.istore 24, 2) := by decide +kernel
theorem dL_law_2012 : decode cL_law 2012 = .ok (.iinc 25 1, 3) := by decide +kernel
theorem dL_law_2015 : decode cL_law 2015 = .ok (.goto (-37), 3) := by decide +kernel
theorem dL_law_2018 : decode cL_law 2018 = .ok (.iload 24, 2) := by decide +kernel
theorem dL_law_2020 : decode cL_law 2020 = .ok (.ifCond .ne 5, 3) := by decide +kernel
theorem dL_law_2023 : decode cL_law 2023 = .ok (.iconst 0, 1) := by decide +kernel
theorem dL_law_2024 : decode cL_law 2024 = .ok (.ireturn, 1) := by decide +kernel
theorem dL_law_2025 : decode cL_law 2025 = .ok (.goto (-128), 3) := by decide +kernel
theorem dL_law_2028 : decode cL_law 2028 = .ok (.iconst 0, 1) := by decide +kernel
theorem dL_law_2029 : decode cL_law 2029 = .ok (.istore 22, 2) := by decide +kernel
theorem dL_law_2031 : decode cL_law 2031 = .ok (.iload 22, 2) := by decide +kernel
theorem dL_law_2033 : decode cL_law 2033 = .ok (.iload 21, 2) := by decide +kernel
theorem dL_law_2035 : decode cL_law 2035 = .ok (.if_icmp .ge 73, 3) := by decide +kernel
theorem dL_law_2038 : decode cL_law 2038 = .ok (.iload 20, 2) := by decide +kernel
theorem dL_law_2040 : decode cL_law 2040 = .ok (.bipush 8, 2) := by decide +kernel
theorem dL_law_2042 : decode cL_law 2042 = .ok (.if_icmp .ge 66, 3) := by decide +kernel
theorem dL_law_2045 : decode cL_law 2045 = .ok (.aload_n 1, 1) := by decide +kernel
theorem dL_law_2046 : decode cL_law 2046 = .ok (.iload 22, 2) := by decide +kernel
theorem dL_law_2048 : decode cL_law 2048 = .ok (.invokevirtual 84, 3) := by decide +kernel
theorem dL_law_2051 : decode cL_law 2051 = .ok (.istore 23, 2) := by decide +kernel
theorem dL_law_2053 : decode cL_law 2053 = .ok (.iconst 0, 1) := by decide +kernel
theorem dL_law_2054 : decode cL_law 2054 = .ok (.istore 24, 2) := by decide +kernel
theorem dL_law_2056 : decode cL_law 2056 = .ok (.iload 24, 2) := by decide +kernel
theorem dL_law_2058 : decode cL_law 2058 = .ok (.bipush 41, 2) := by decide +kernel
theorem dL_law_2060 : decode cL_law 2060 = .ok (.if_icmp .ge 42, 3) := by decide +kernel
theorem dL_law_2063 : decode cL_law 2063 = .ok (.aload_n 1, 1) := by decide +kernel
theorem dL_law_2064 : decode cL_law 2064 = .ok (.iload 23, 2) := by decide +kernel
theorem dL_law_2066 : decode cL_law 2066 = .ok (.bipush 10, 2) := by decide +kernel
theorem dL_law_2068 : decode cL_law 2068 = .ok (.idiv, 1) := by decide +kernel
theorem dL_law_2069 : decode cL_law 2069 = .ok (.iload 24, 2) := by decide +kernel
theorem dL_law_2071 : decode cL_law 2071 = .ok (.iload 23, 2) := by decide +kernel
theorem dL_law_2073 : decode cL_law 2073 = .ok (.bipush 10, 2) := by decide +kernel
theorem dL_law_2075 : decode cL_law 2075 = .ok (.irem, 1) := by decide +kernel
theorem dL_law_2076 : decode cL_law 2076 = .ok (.idiv, 1) := by decide +kernel
theorem dL_law_2077 : decode cL_law 2077 = .ok (.invokevirtual 81, 3) := by decide +kernel
theorem dL_law_2080 : decode cL_law 2080 = .ok (.aload_n 1, 1) := by decide +kernel
theorem dL_law_2081 : decode cL_law 2081 = .ok (.iload 18, 2) := by decide +kernel
theorem dL_law_2083 : decode cL_law 2083 = .ok (.iload 24, 2) := by decide +kernel
theorem dL_law_2085 : decode cL_law 2085 = .ok (.iload 19, 2) := by decide +kernel
theorem dL_law_2087 : decode cL_law 2087 = .ok (.idiv, 1) := by decide +kernel
theorem dL_law_2088 : decode cL_law 2088 = .ok (.invokevirtual 81, 3) := by decide +kernel
theorem dL_law_2091 : decode cL_law 2091 = .ok (.if_icmp .eq 5, 3) := by decide +kernel
theorem dL_law_2094 : decode cL_law 2094 = .ok (.iconst 0, 1) := by decide +kernel
theorem dL_law_2095 : decode cL_law 2095 = .ok (.ireturn, 1) := by decide +kernel
theorem dL_law_2096 : decode cL_law 2096 = .ok (.iinc 24 1, 3) := by decide +kernel
theorem dL_law_2099 : decode cL_law 2099 = .ok (.goto (-43), 3) := by decide +kernel
theorem dL_law_2102 : decode cL_law 2102 = .ok (.iinc 22 1, 3) := by decide +kernel
theorem dL_law_2105 : decode cL_law 2105 = .ok (.goto (-74), 3) := by decide +kernel
theorem dL_law_2108 : decode cL_law 2108 = .ok (.aload_n 1, 1) := by decide +kernel
theorem dL_law_2109 : decode cL_law 2109 = .ok (.invokevirtual 93, 3) := by decide +kernel
theorem dL_law_2112 : decode cL_law 2112 = .ok (.iload 20, 2) := by decide +kernel
theorem dL_law_2114 : decode cL_law 2114 = .ok (.if_icmp .eq 5, 3) := by decide +kernel
theorem dL_law_2117 : decode cL_law 2117 = .ok (.iconst 0, 1) := by decide +kernel
theorem dL_law_2118 : decode cL_law 2118 = .ok (.ireturn, 1) := by decide +kernel
theorem dL_law_2119 : decode cL_law 2119 = .ok (.iconst 1, 1) := by decide +kernel
theorem dL_law_2120 : decode cL_law 2120 = .ok (.aload_n 0, 1) := by decide +kernel
theorem dL_law_2121 : decode cL_law 2121 = .ok (.bipush 8, 2) := by decide +kernel
theorem dL_law_2123 : decode cL_law 2123 = .ok (.bipush 60, 2) := by decide +kernel
theorem dL_law_2125 : decode cL_law 2125 = .ok (.invokestatic 20, 3) := by decide +kernel
theorem dL_law_2128 : decode cL_law 2128 = .ok (.iadd, 1) := by decide +kernel
theorem dL_law_2129 : decode cL_law 2129 = .ok (.istore 22, 2) := by decide +kernel
theorem dL_law_2131 : decode cL_law 2131 = .ok (.aload_n 1, 1) := by decide +kernel
theorem dL_law_2132 : decode cL_law 2132 = .ok (.iload 22, 2) := by decide +kernel
theorem dL_law_2134 : decode cL_law 2134 = .ok (.iconst 0, 1) := by decide +kernel
theorem dL_law_2135 : decode cL_law 2135 = .ok (.invokevirtual 96, 3) := by decide +kernel
theorem dL_law_2138 : decode cL_law 2138 = .ok (.iconst 1, 1) := by decide +kernel
theorem dL_law_2139 : decode cL_law 2139 = .ok (.if_icmp .ne 7, 3) := by decide +kernel
theorem dL_law_2142 : decode cL_law 2142 = .ok (.iconst 1, 1) := by decide +kernel
theorem dL_law_2143 : decode cL_law 2143 = .ok (.goto 4, 3) := by decide +kernel
theorem dL_law_2146 : decode cL_law 2146 = .ok (.iconst 0, 1) := by decide +kernel
theorem dL_law_2147 : decode cL_law 2147 = .ok (.istore 23, 2) := by decide +kernel
theorem dL_law_2149 : decode cL_law 2149 = .ok (.aload_n 1, 1) := by decide +kernel
theorem dL_law_2150 : decode cL_law 2150 = .ok (.iload 22, 2) := by decide +kernel
theorem dL_law_2152 : decode cL_law 2152 = .ok (.iconst 1, 1) := by decide +kernel
theorem dL_law_2153 : decode cL_law 2153 = .ok (.invokevirtual 96, 3) := by decide +kernel
theorem dL_law_2156 : decode cL_law 2156 = .ok (.istore 24, 2) := by decide +kernel
theorem dL_law_2158 : decode cL_law 2158 = .ok (.iload 22, 2) := by decide +kernel
theorem dL_law_2160 : decode cL_law 2160 = .ok (.iconst 1, 1) := by decide +kernel
theorem dL_law_2161 : decode cL_law 2161 = .ok (.isub, 1) := by decide +kernel
theorem dL_law_2162 : decode cL_law 2162 = .ok (.istore 25, 2) := by decide +kernel
theorem dL_law_2164 : decode cL_law 2164 = .ok (.iconst 0, 1) := by decide +kernel
theorem dL_law_2165 : decode cL_law 2165 = .ok (.istore 26, 2) := by decide +kernel
theorem dL_law_2167 : decode cL_law 2167 = .ok (.bipush 61, 2) := by decide +kernel
theorem dL_law_2169 : decode cL_law 2169 = .ok (.newarray .int, 2) := by decide +kernel
theorem dL_law_2171 : decode cL_law 2171 = .ok (.astore 27, 2) := by decide +kernel
theorem dL_law_2173 : decode cL_law 2173 = .ok (.iconst 1, 1) := by decide +kernel
theorem dL_law_2174 : decode cL_law 2174 = .ok (.istore 28, 2) := by decide +kernel
theorem dL_law_2176 : decode cL_law 2176 = .ok (.iload 28, 2) := by decide +kernel
theorem dL_law_2178 : decode cL_law 2178 = .ok (.bipush 61, 2) := by decide +kernel
theorem dL_law_2180 : decode cL_law 2180 = .ok (.if_icmp .ge 63, 3) := by decide +kernel
theorem dL_law_2183 : decode cL_law 2183 = .ok (.aload 27, 2) := by decide +kernel
theorem dL_law_2185 : decode cL_law 2185 = .ok (.iload 28, 2) := by decide +kernel
theorem dL_law_2187 : decode cL_law 2187 = .ok (.iload 28, 2) := by decide +kernel
theorem dL_law_2189 : decode cL_law 2189 = .ok (.iastore, 1) := by decide +kernel
theorem dL_law_2190 : decode cL_law 2190 = .ok (.iload 28, 2) := by decide +kernel
theorem dL_law_2192 : decode cL_law 2192 = .ok (.iconst 1, 1) := by decide +kernel
theorem dL_law_2193 : decode cL_law 2193 = .ok (.isub, 1) := by decide +kernel
theorem dL_law_2194 : decode cL_law 2194 = .ok (.istore 29, 2) := by decide +kernel
theorem dL_law_2196 : decode cL_law 2196 = .ok (.iload 29, 2) := by decide +kernel
theorem dL_law_2198 : decode cL_law 2198 = .ok (.ifCond .le 39, 3) := by decide +kernel
theorem dL_law_2201 : decode cL_law 2201 = .ok (.aload 27, 2) := by decide +kernel
theorem dL_law_2203 : decode cL_law 2203 = .ok (.iload 28, 2) := by decide +kernel
theorem dL_law_2205 : decode cL_law 2205 = .ok (.aload 27, 2) := by decide +kernel
theorem dL_law_2207 : decode cL_law 2207 = .ok (.iload 28, 2) := by decide +kernel
theorem dL_law_2209 : decode cL_law 2209 = .ok (.iload 29, 2) := by decide +kernel
theorem dL_law_2211 : decode cL_law 2211 = .ok (.isub, 1) := by decide +kernel
theorem dL_law_2212 : decode cL_law 2212 = .ok (.iaload, 1) := by decide +kernel
theorem dL_law_2213 : decode cL_law 2213 = .ok (.iconst 2, 1) := by decide +kernel
theorem dL_law_2214 : decode cL_law 2214 = .ok (.iload 29, 2) := by decide +kernel
theorem dL_law_2216 : decode cL_law 2216 = .ok (.imul, 1) := by decide +kernel
theorem dL_law_2217 : decode cL_law 2217 = .ok (.if_icmp .le 8, 3) := by decide +kernel
theorem dL_law_2220 : decode cL_law 2220 = .ok (.iload 29, 2) := by decide +kernel
theorem dL_law_2222 : decode cL_law 2222 = .ok (.goto 8, 3) := by decide +kernel
theorem dL_law_2225 : decode cL_law 2225 = .ok (.aload 27, 2) := by decide +kernel
theorem dL_law_2227 : decode cL_law 2227 = .ok (.iload 28, 2) := by decide +kernel
theorem dL_law_2229 : decode cL_law 2229 = .ok (.iaload, 1) := by decide +kernel
theorem dL_law_2230 : decode cL_law 2230 = .ok (.iastore, 1) := by decide +kernel
theorem dL_law_2231 : decode cL_law 2231 = .ok (.iinc 29 (-1), 3) := by decide +kernel
theorem dL_law_2234 : decode cL_law 2234 = .ok (.goto (-38), 3) := by decide +kernel
theorem dL_law_2237 : decode cL_law 2237 = .ok (.iinc 28 1, 3) := by decide +kernel
theorem dL_law_2240 : decode cL_law 2240 = .ok (.goto (-64), 3) := by decide +kernel
theorem dL_law_2243 : decode cL_law 2243 = .ok (.iload 22, 2) := by decide +kernel
theorem dL_law_2245 : decode cL_law 2245 = .ok (.ifCond .le 105, 3) := by decide +kernel
theorem dL_law_2248 : decode cL_law 2248 = .ok (.iload 25, 2) := by decide +kernel
theorem dL_law_2250 : decode cL_law 2250 = .ok (.ifCond .le 100, 3) := by decide +kernel
theorem dL_law_2253 : decode cL_law 2253 = .ok (.iload 26, 2) := by decide +kernel
theorem dL_law_2255 : decode cL_law 2255 = .ok (.iconst 2, 1) := by decide +kernel
theorem dL_law_2256 : decode cL_law 2256 = .ok (.irem, 1) := by decide +kernel
theorem dL_law_2257 : decode cL_law 2257 = .ok (.ifCond .ne 7, 3) := by decide +kernel
theorem dL_law_2260 : decode cL_law 2260 = .ok (.iconst 1, 1) := by decide +kernel
theorem dL_law_2261 : decode cL_law 2261 = .ok (.goto 4, 3) := by decide +kernel
theorem dL_law_2264 : decode cL_law 2264 = .ok (.iconst 0, 1) := by decide +kernel
theorem dL_law_2265 : decode cL_law 2265 = .ok (.iload 23, 2) := by decide +kernel
theorem dL_law_2267 : decode cL_law 2267 = .ok (.if_icmp .ne 11, 3) := by decide +kernel
theorem dL_law_2270 : decode cL_law 2270 = .ok (.aload 27, 2) := by decide +kernel
theorem dL_law_2272 : decode cL_law 2272 = .ok (.iload 22, 2) := by decide +kernel
theorem dL_law_2274 : decode cL_law 2274 = .ok (.iaload, 1) := by decide +kernel
theorem dL_law_2275 : decode cL_law 2275 = .ok (.goto 28, 3) := by decide +kernel
theorem dL_law_2278 : decode cL_law 2278 = .ok (.iconst 1, 1) := by decide +kernel
theorem dL_law_2279 : decode cL_law 2279 = .ok (.aload_n 0, 1) := by decide +kernel
theorem dL_law_2280 : decode cL_law 2280 = .ok (.iload 26, 2) := by decide +kernel
theorem dL_law_2282 : decode cL_law 2282 = .ok (.bipush 40, 2) := by decide +kernel
theorem dL_law_2284 : decode cL_law 2284 = .ok (.iadd, 1) := by decide +kernel
theorem dL_law_2285 : decode cL_law 2285 = .ok (.iload 25, 2) := by decide +kernel
theorem dL_law_2287 : decode cL_law 2287 = .ok (.iload 22, 2) := by decide +kernel
theorem dL_law_2289 : decode cL_law 2289 = .ok (.if_icmp .ge 8, 3) := by decide +kernel
theorem dL_law_2292 : decode cL_law 2292 = .ok (.iload 25, 2) := by decide +kernel
theorem dL_law_2294 : decode cL_law 2294 = .ok (.goto 5, 3) := by decide +kernel
theorem dL_law_2297 : decode cL_law 2297 = .ok (.iload 22, 2) := by decide +kernel
theorem dL_law_2299 : decode cL_law 2299 = .ok (.invokestatic 20, 3) := by decide +kernel
theorem dL_law_2302 : decode cL_law 2302 = .ok (.iadd, 1) := by decide +kernel
theorem dL_law_2303 : decode cL_law 2303 = .ok (.istore 28, 2) := by decide +kernel
theorem dL_law_2305 : decode cL_law 2305 = .ok (.iload 28, 2) := by decide +kernel
theorem dL_law_2307 : decode cL_law 2307 = .ok (.iload 25, 2) := by decide +kernel
theorem dL_law_2309 : decode cL_law 2309 = .ok (.if_icmp .gt 20, 3) := by decide +kernel
theorem dL_law_2312 : decode cL_law 2312 = .ok (.iload 26, 2) := by decide +kernel
theorem dL_law_2314 : decode cL_law 2314 = .ok (.ifCond .ne 17, 3) := by decide +kernel
theorem dL_law_2317 : decode cL_law 2317 = .ok (.iload 23, 2) := by decide +kernel
theorem dL_law_2319 : decode cL_law 2319 = .ok (.ifCond .eq 12, 3) := by decide +kernel
theorem dL_law_2322 : decode cL_law 2322 = .ok (.iload 28, 2) := by decide +kernel
theorem dL_law_2324 : decode cL_law 2324 = .ok (.iload 24, 2) := by decide +kernel
theorem dL_law_2326 : decode cL_law 2326 = .ok (.if_icmp .eq 5, 3) := by decide +kernel
theorem dL_law_2329 : decode cL_law 2329 = .ok (.iconst 0, 1) := by decide +kernel
theorem dL_law_2330 : decode cL_law 2330 = .ok (.ireturn, 1) := by decide +kernel
theorem dL_law_2331 : decode cL_law 2331 = .ok (.iload 22, 2) := by decide +kernel
theorem dL_law_2333 : decode cL_law 2333 = .ok (.iload 28, 2) := by decide +kernel
theorem dL_law_2335 : decode cL_law 2335 = .ok (.isub, 1) := by decide +kernel
theorem dL_law_2336 : decode cL_law 2336 = .ok (.istore 22, 2) := by decide +kernel
theorem dL_law_2338 : decode cL_law 2338 = .ok (.iconst 2, 1) := by decide +kernel
theorem dL_law_2339 : decode cL_law 2339 = .ok (.iload 28, 2) := by decide +kernel
theorem dL_law_2341 : decode cL_law 2341 = .ok (.imul, 1) := by decide +kernel
theorem dL_law_2342 : decode cL_law 2342 = .ok (.istore 25, 2) := by decide +kernel
theorem dL_law_2344 : decode cL_law 2344 = .ok (.iinc 26 1, 3) := by decide +kernel
theorem dL_law_2347 : decode cL_law 2347 = .ok (.goto (-104), 3) := by decide +kernel
theorem dL_law_2350 : decode cL_law 2350 = .ok (.iload 26, 2) := by decide +kernel
theorem dL_law_2352 : decode cL_law 2352 = .ok (.iconst 2, 1) := by decide +kernel
theorem dL_law_2353 : decode cL_law 2353 = .ok (.irem, 1) := by decide +kernel
theorem dL_law_2354 : decode cL_law 2354 = .ok (.iconst 1, 1) := by decide +kernel
theorem dL_law_2355 : decode cL_law 2355 = .ok (.if_icmp .ne 7, 3) := by decide +kernel
theorem dL_law_2358 : decode cL_law 2358 = .ok (.iconst 1, 1) := by decide +kernel
theorem dL_law_2359 : decode cL_law 2359 = .ok (.goto 4, 3) := by decide +kernel
theorem dL_law_2362 : decode cL_law 2362 = .ok (.iconst 0, 1) := by decide +kernel
theorem dL_law_2363 : decode cL_law 2363 = .ok (.iload 23, 2) := by decide +kernel
theorem dL_law_2365 : decode cL_law 2365 = .ok (.if_icmp .ne 35, 3) := by decide +kernel
theorem dL_law_2368 : decode cL_law 2368 = .ok (.iload 7, 2) := by decide +kernel
theorem dL_law_2370 : decode cL_law 2370 = .ok (.ifCond .eq 30, 3) := by decide +kernel
theorem dL_law_2373 : decode cL_law 2373 = .ok (.iload 9, 2) := by decide +kernel
theorem dL_law_2375 : decode cL_law 2375 = .ok (.bipush 10, 2) := by decide +kernel
theorem dL_law_2377 : decode cL_law 2377 = .ok (.if_icmp .eq 19, 3) := by decide +kernel
theorem dL_law_2380 : decode cL_law 2380 = .ok (.bipush 10, 2) := by decide +kernel
theorem dL_law_2382 : decode cL_law 2382 = .ok (.iload 4, 2) := by decide +kernel
theorem dL_law_2384 : decode cL_law 2384 = .ok (.imul, 1) := by decide +kernel
theorem dL_law_2385 : decode cL_law 2385 = .ok (.iload 9, 2) := by decide +kernel
theorem dL_law_2387 : decode cL_law 2387 = .ok (.iload_n 2, 1) := by decide +kernel
theorem dL_law_2388 : decode cL_law 2388 = .ok (.iconst 5, 1) := by decide +kernel
theorem dL_law_2389 : decode cL_law 2389 = .ok (.iadd, 1) := by decide +kernel
theorem dL_law_2390 : decode cL_law 2390 = .ok (.imul, 1) := by decide +kernel
theorem dL_law_2391 : decode cL_law 2391 = .ok (.isub, 1) := by decide +kernel
theorem dL_law_2392 : decode cL_law 2392 = .ok (.iload_n 2, 1) := by decide +kernel
theorem dL_law_2393 : decode cL_law 2393 = .ok (.if_icmp .gt 7, 3) := by decide +kernel
theorem dL_law_2396 : decode cL_law 2396 = .ok (.iconst 1, 1) := by decide +kernel
theorem dL_law_2397 : decode cL_law 2397 = .ok (.goto 4, 3) := by decide +kernel
theorem dL_law_2400 : decode cL_law 2400 = .ok (.iconst 0, 1) := by decide +kernel
theorem dL_law_2401 : decode cL_law 2401 = .ok (.ireturn, 1) := by decide +kernel
