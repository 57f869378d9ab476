theorem dL_law_1932 : decode cL_law 1932 = .ok (.aload_n 0, 1) := by decide +kernel
theorem dL_law_1933 : decode cL_law 1933 = .ok (.iload 4, 2) := by decide +kernel
theorem dL_law_1935 : decode cL_law 1935 = .ok (.iconst 1, 1) := by decide +kernel
theorem dL_law_1936 : decode cL_law 1936 = .ok (.iadd, 1) := by decide +kernel
theorem dL_law_1937 : decode cL_law 1937 = .ok (.iaload, 1) := by decide +kernel
theorem dL_law_1938 : decode cL_law 1938 = .ok (.aload_n 0, 1) := by decide +kernel
theorem dL_law_1939 : decode cL_law 1939 = .ok (.iload 4, 2) := by decide +kernel
theorem dL_law_1941 : decode cL_law 1941 = .ok (.iconst 2, 1) := by decide +kernel
theorem dL_law_1942 : decode cL_law 1942 = .ok (.iadd, 1) := by decide +kernel
theorem dL_law_1943 : decode cL_law 1943 = .ok (.iaload, 1) := by decide +kernel
theorem dL_law_1944 : decode cL_law 1944 = .ok (.aload_n 0, 1) := by decide +kernel
theorem dL_law_1945 : decode cL_law 1945 = .ok (.iload 4, 2) := by decide +kernel
theorem dL_law_1947 : decode cL_law 1947 = .ok (.iconst 3, 1) := by decide +kernel
theorem dL_law_1948 : decode cL_law 1948 = .ok (.iadd, 1) := by decide +kernel
theorem dL_law_1949 : decode cL_law 1949 = .ok (.iaload, 1) := by decide +kernel
theorem dL_law_1950 : decode cL_law 1950 = .ok (.aload_n 3, 1) := by decide +kernel
theorem dL_law_1951 : decode cL_law 1951 = .ok (.invokestatic 221, 3) := by decide +kernel
theorem dL_law_1954 : decode cL_law 1954 = .ok (.istore 5, 2) := by decide +kernel
theorem dL_law_1956 : decode cL_law 1956 = .ok (.aload_n 2, 1) := by decide +kernel
theorem dL_law_1957 : decode cL_law 1957 = .ok (.aload_n 0, 1) := by decide +kernel
theorem dL_law_1958 : decode cL_law 1958 = .ok (.iload 4, 2) := by decide +kernel
theorem dL_law_1960 : decode cL_law 1960 = .ok (.iconst 1, 1) := by decide +kernel
theorem dL_law_1961 : decode cL_law 1961 = .ok (.iadd, 1) := by decide +kernel
theorem dL_law_1962 : decode cL_law 1962 = .ok (.iaload, 1) := by decide +kernel
theorem dL_law_1963 : decode cL_law 1963 = .ok (.aload_n 0, 1) := by decide +kernel
theorem dL_law_1964 : decode cL_law 1964 = .ok (.iload 4, 2) := by decide +kernel
theorem dL_law_1966 : decode cL_law 1966 = .ok (.iconst 2, 1) := by decide +kernel
theorem dL_law_1967 : decode cL_law 1967 = .ok (.iadd, 1) := by decide +kernel
theorem dL_law_1968 : decode cL_law 1968 = .ok (.iaload, 1) := by decide +kernel
theorem dL_law_1969 : decode cL_law 1969 = .ok (.aload_n 0, 1) := by decide +kernel
theorem dL_law_1970 : decode cL_law 1970 = .ok (.iload 4, 2) := by decide +kernel
theorem dL_law_1972 : decode cL_law 1972 = .ok (.iconst 3, 1) := by decide +kernel
theorem dL_law_1973 : decode cL_law 1973 = .ok (.iadd, 1) := by decide +kernel
theorem dL_law_1974 : decode cL_law 1974 = .ok (.iaload, 1) := by decide +kernel
theorem dL_law_1975 : decode cL_law 1975 = .ok (.invokevirtual 223, 3) := by decide +kernel
theorem dL_law_1978 : decode cL_law 1978 = .ok (.istore 6, 2) := by decide +kernel
theorem dL_law_1980 : decode cL_law 1980 = .ok (.aload_n 2, 1) := by decide +kernel
theorem dL_law_1981 : decode cL_law 1981 = .ok (.invokevirtual 127, 3) := by decide +kernel
theorem dL_law_1984 : decode cL_law 1984 = .ok (.iload 5, 2) := by decide +kernel
theorem dL_law_1986 : decode cL_law 1986 = .ok (.if_icmp .eq 5, 3) := by decide +kernel
theorem dL_law_1989 : decode cL_law 1989 = .ok (.iconst 0, 1) := by decide +kernel
theorem dL_law_1990 : decode cL_law 1990 = .ok (.ireturn, 1) := by decide +kernel
theorem dL_law_1991 : decode cL_law 1991 = .ok (.iload 5, 2) := by decide +kernel
theorem dL_law_1993 : decode cL_law 1993 = .ok (.ifCond .ne 15, 3) := by decide +kernel
theorem dL_law_1996 : decode cL_law 1996 = .ok (.aload_n 3, 1) := by decide +kernel
theorem dL_law_1997 : decode cL_law 1997 = .ok (.iconst 0, 1) := by decide +kernel
theorem dL_law_1998 : decode cL_law 1998 = .ok (.laload, 1) := by decide +kernel
theorem dL_law_1999 : decode cL_law 1999 = .ok (.iload 6, 2) := by decide +kernel
theorem dL_law_2001 : decode cL_law 2001 = .ok (.i2l, 1) := by decide +kernel
theorem dL_law_2002 : decode cL_law 2002 = .ok (.lcmp, 1) := by decide +kernel
theorem dL_law_2003 : decode cL_law 2003 = .ok (.ifCond .eq 5, 3) := by decide +kernel
theorem dL_law_2006 : decode cL_law 2006 = .ok (.iconst 0, 1) := by decide +kernel
theorem dL_law_2007 : decode cL_law 2007 = .ok (.ireturn, 1) := by decide +kernel
theorem dL_law_2008 : decode cL_law 2008 = .ok (.goto 512, 3) := by decide +kernel
theorem dL_law_2011 : decode cL_law 2011 = .ok (.aload_n 1, 1) := by decide +kernel
theorem dL_law_2012 : decode cL_law 2012 = .ok (.aload_n 0, 1) := by decide +kernel
theorem dL_law_2013 : decode cL_law 2013 = .ok (.iload 4, 2) := by decide +kernel
theorem dL_law_2015 : decode cL_law 2015 = .ok (.iconst 1, 1) := by decide +kernel
theorem dL_law_2016 : decode cL_law 2016 = .ok (.iadd, 1) := by decide +kernel
theorem dL_law_2017 : decode cL_law 2017 = .ok (.iaload, 1) := by decide +kernel
theorem dL_law_2018 : decode cL_law 2018 = .ok (.aload_n 0, 1) := by decide +kernel
theorem dL_law_2019 : decode cL_law 2019 = .ok (.iload 4, 2) := by decide +kernel
theorem dL_law_2021 : decode cL_law 2021 = .ok (.iconst 2, 1) := by decide +kernel
theorem dL_law_2022 : decode cL_law 2022 = .ok (.iadd, 1) := by decide +kernel
theorem dL_law_2023 : decode cL_law 2023 = .ok (.iaload, 1) := by decide +kernel
theorem dL_law_2024 : decode cL_law 2024 = .ok (.aload_n 3, 1) := by decide +kernel
theorem dL_law_2025 : decode cL_law 2025 = .ok (.invokestatic 224, 3) := by decide +kernel
theorem dL_law_2028 : decode cL_law 2028 = .ok (.istore 5, 2) := by decide +kernel
theorem dL_law_2030 : decode cL_law 2030 = .ok (.aload_n 2, 1) := by decide +kernel
theorem dL_law_2031 : decode cL_law 2031 = .ok (.aload_n 0, 1) := by decide +kernel
theorem dL_law_2032 : decode cL_law 2032 = .ok (.iload 4, 2) := by decide +kernel
theorem dL_law_2034 : decode cL_law 2034 = .ok (.iconst 1, 1) := by decide +kernel
theorem dL_law_2035 : decode cL_law 2035 = .ok (.iadd, 1) := by decide +kernel
theorem dL_law_2036 : decode cL_law 2036 = .ok (.iaload, 1) := by decide +kernel
theorem dL_law_2037 : decode cL_law 2037 = .ok (.aload_n 0, 1) := by decide +kernel
theorem dL_law_2038 : decode cL_law 2038 = .ok (.iload 4, 2) := by decide +kernel
theorem dL_law_2040 : decode cL_law 2040 = .ok (.iconst 2, 1) := by decide +kernel
theorem dL_law_2041 : decode cL_law 2041 = .ok (.iadd, 1) := by decide +kernel
theorem dL_law_2042 : decode cL_law 2042 = .ok (.iaload, 1) := by decide +kernel
theorem dL_law_2043 : decode cL_law 2043 = .ok (.invokevirtual 226, 3) := by decide +kernel
theorem dL_law_2046 : decode cL_law 2046 = .ok (.istore 6, 2) := by decide +kernel
theorem dL_law_2048 : decode cL_law 2048 = .ok (.aload_n 2, 1) := by decide +kernel
theorem dL_law_2049 : decode cL_law 2049 = .ok (.invokevirtual 127, 3) := by decide +kernel
theorem dL_law_2052 : decode cL_law 2052 = .ok (.iload 5, 2) := by decide +kernel
theorem dL_law_2054 : decode cL_law 2054 = .ok (.if_icmp .eq 5, 3) := by decide +kernel
theorem dL_law_2057 : decode cL_law 2057 = .ok (.iconst 0, 1) := by decide +kernel
theorem dL_law_2058 : decode cL_law 2058 = .ok (.ireturn, 1) := by decide +kernel
theorem dL_law_2059 : decode cL_law 2059 = .ok (.iload 5, 2) := by decide +kernel
theorem dL_law_2061 : decode cL_law 2061 = .ok (.ifCond .ne 15, 3) := by decide +kernel
theorem dL_law_2064 : decode cL_law 2064 = .ok (.aload_n 3, 1) := by decide +kernel
theorem dL_law_2065 : decode cL_law 2065 = .ok (.iconst 0, 1) := by decide +kernel
theorem dL_law_2066 : decode cL_law 2066 = .ok (.laload, 1) := by decide +kernel
theorem dL_law_2067 : decode cL_law 2067 = .ok (.iload 6, 2) := by decide +kernel
theorem dL_law_2069 : decode cL_law 2069 = .ok (.i2l, 1) := by decide +kernel
theorem dL_law_2070 : decode cL_law 2070 = .ok (.lcmp, 1) := by decide +kernel
theorem dL_law_2071 : decode cL_law 2071 = .ok (.ifCond .eq 5, 3) := by decide +kernel
theorem dL_law_2074 : decode cL_law 2074 = .ok (.iconst 0, 1) := by decide +kernel
theorem dL_law_2075 : decode cL_law 2075 = .ok (.ireturn, 1) := by decide +kernel
theorem dL_law_2076 : decode cL_law 2076 = .ok (.goto 444, 3) := by decide +kernel
theorem dL_law_2079 : decode cL_law 2079 = .ok (.aload_n 1, 1) := by decide +kernel
theorem dL_law_2080 : decode cL_law 2080 = .ok (.aload_n 0, 1) := by decide +kernel
theorem dL_law_2081 : decode cL_law 2081 = .ok (.iload 4, 2) := by decide +kernel
theorem dL_law_2083 : decode cL_law 2083 = .ok (.iconst 1, 1) := by decide +kernel
theorem dL_law_2084 : decode cL_law 2084 = .ok (.iadd, 1) := by decide +kernel
theorem dL_law_2085 : decode cL_law 2085 = .ok (.iaload, 1) := by decide +kernel
theorem dL_law_2086 : decode cL_law 2086 = .ok (.aload_n 0, 1) := by decide +kernel
theorem dL_law_2087 : decode cL_law 2087 = .ok (.iload 4, 2) := by decide +kernel
theorem dL_law_2089 : decode cL_law 2089 = .ok (.iconst 2, 1) := by decide +kernel
theorem dL_law_2090 : decode cL_law 2090 = .ok (.iadd, 1) := by decide +kernel
theorem dL_law_2091 : decode cL_law 2091 = .ok (.iaload, 1) := by decide +kernel
theorem dL_law_2092 : decode cL_law 2092 = .ok (.aload_n 0, 1) := by decide +kernel
theorem dL_law_2093 : decode cL_law 2093 = .ok (.iload 4, 2) := by decide +kernel
theorem dL_law_2095 : decode cL_law 2095 = .ok (.iconst 3, 1) := by decide +kernel
theorem dL_law_2096 : decode cL_law 2096 = .ok (.iadd, 1) := by decide +kernel
theorem dL_law_2097 : decode cL_law 2097 = .ok (.iaload, 1) := by decide +kernel
theorem dL_law_2098 : decode cL_law 2098 = .ok (.aload_n 3, 1) := by decide +kernel
theorem dL_law_2099 : decode cL_law 2099 = .ok (.invokestatic 227, 3) := by decide +kernel
theorem dL_law_2102 : decode cL_law 2102 = .ok (.istore 5, 2) := by decide +kernel
theorem dL_law_2104 : decode cL_law 2104 = .ok (.aload_n 2, 1) := by decide +kernel
theorem dL_law_2105 : decode cL_law 2105 = .ok (.aload_n 0, 1) := by decide +kernel
theorem dL_law_2106 : decode cL_law 2106 = .ok (.iload 4, 2) := by decide +kernel
theorem dL_law_2108 : decode cL_law 2108 = .ok (.iconst 1, 1) := by decide +kernel
theorem dL_law_2109 : decode cL_law 2109 = .ok (.iadd, 1) := by decide +kernel
theorem dL_law_2110 : decode cL_law 2110 = .ok (.iaload, 1) := by decide +kernel
theorem dL_law_2111 : decode cL_law 2111 = .ok (.aload_n 0, 1) := by decide +kernel
theorem dL_law_2112 : decode cL_law 2112 = .ok (.iload 4, 2) := by decide +kernel
theorem dL_law_2114 : decode cL_law 2114 = .ok (.iconst 2, 1) := by decide +kernel
theorem dL_law_2115 : decode cL_law 2115 = .ok (.iadd, 1) := by decide +kernel
theorem dL_law_2116 : decode cL_law 2116 = .ok (.iaload, 1) := by decide +kernel
theorem dL_law_2117 : decode cL_law 2117 = .ok (.aload_n 0, 1) := by decide +kernel
theorem dL_law_2118 : decode cL_law 2118 = .ok (.iload 4, 2) := by decide +kernel
theorem dL_law_2120 : decode cL_law 2120 = .ok (.iconst 3, 1) := by decide +kernel
theorem dL_law_2121 : decode cL_law 2121 = .ok (.iadd, 1) := by decide +kernel
theorem dL_law_2122 : decode cL_law 2122 = .ok (.iaload, 1) := by decide +kernel
theorem dL_law_2123 : decode cL_law 2123 = .ok (.invokevirtual 229, 3) := by decide +kernel
theorem dL_law_2126 : decode cL_law 2126 = .ok (.istore 6, 2) := by decide +kernel
theorem dL_law_2128 : decode cL_law 2128 = .ok (.aload_n 2, 1) := by decide +kernel
theorem dL_law_2129 : decode cL_law 2129 = .ok (.invokevirtual 127, 3) := by decide +kernel
theorem dL_law_2132 : decode cL_law 2132 = .ok (.iload 5, 2) := by decide +kernel
theorem dL_law_2134 : decode cL_law 2134 = .ok (.if_icmp .eq 5, 3) := by decide +kernel
theorem dL_law_2137 : decode cL_law 2137 = .ok (.iconst 0, 1) := by decide +kernel
theorem dL_law_2138 : decode cL_law 2138 = .ok (.ireturn, 1) := by decide +kernel
theorem dL_law_2139 : decode cL_law 2139 = .ok (.iload 5, 2) := by decide +kernel
theorem dL_law_2141 : decode cL_law 2141 = .ok (.ifCond .ne 15, 3) := by decide +kernel
theorem dL_law_2144 : decode cL_law 2144 = .ok (.aload_n 3, 1) := by decide +kernel
theorem dL_law_2145 : decode cL_law 2145 = .ok (.iconst 0, 1) := by decide +kernel
theorem dL_law_2146 : decode cL_law 2146 = .ok (.laload, 1) := by decide +kernel
theorem dL_law_2147 : decode cL_law 2147 = .ok (.iload 6, 2) := by decide +kernel
theorem dL_law_2149 : decode cL_law 2149 = .ok (.i2l, 1) := by decide +kernel
theorem dL_law_2150 : decode cL_law 2150 = .ok (.lcmp, 1) := by decide +kernel
theorem dL_law_2151 : decode cL_law 2151 = .ok (.ifCond .eq 5, 3) := by decide +kernel
theorem dL_law_2154 : decode cL_law 2154 = .ok (.iconst 0, 1) := by decide +kernel
theorem dL_law_2155 : decode cL_law 2155 = .ok (.ireturn, 1) := by decide +kernel
theorem dL_law_2156 : decode cL_law 2156 = .ok (.goto 364, 3) := by decide +kernel
theorem dL_law_2159 : decode cL_law 2159 = .ok (.aload_n 1, 1) := by decide +kernel
theorem dL_law_2160 : decode cL_law 2160 = .ok (.invokevirtual 230, 3) := by decide +kernel
theorem dL_law_2163 : decode cL_law 2163 = .ok (.aload_n 2, 1) := by decide +kernel
theorem dL_law_2164 : decode cL_law 2164 = .ok (.invokevirtual 233, 3) := by decide +kernel
theorem dL_law_2167 : decode cL_law 2167 = .ok (.if_icmp .eq 353, 3) := by decide +kernel
theorem dL_law_2170 : decode cL_law 2170 = .ok (.iconst 0, 1) := by decide +kernel
theorem dL_law_2171 : decode cL_law 2171 = .ok (.ireturn, 1) := by decide +kernel
theorem dL_law_2172 : decode cL_law 2172 = .ok (.aload_n 1, 1) := by decide +kernel
theorem dL_law_2173 : decode cL_law 2173 = .ok (.aload_n 0, 1) := by decide +kernel
theorem dL_law_2174 : decode cL_law 2174 = .ok (.iload 4, 2) := by decide +kernel
theorem dL_law_2176 : decode cL_law 2176 = .ok (.iconst 1, 1) := by decide +kernel
theorem dL_law_2177 : decode cL_law 2177 = .ok (.iadd, 1) := by decide +kernel
theorem dL_law_2178 : decode cL_law 2178 = .ok (.iaload, 1) := by decide +kernel
theorem dL_law_2179 : decode cL_law 2179 = .ok (.aload_n 3, 1) := by decide +kernel
theorem dL_law_2180 : decode cL_law 2180 = .ok (.invokestatic 234, 3) := by decide +kernel
theorem dL_law_2183 : decode cL_law 2183 = .ok (.istore 5, 2) := by decide +kernel
theorem dL_law_2185 : decode cL_law 2185 = .ok (.aload_n 2, 1) := by decide +kernel
theorem dL_law_2186 : decode cL_law 2186 = .ok (.aload_n 0, 1) := by decide +kernel
theorem dL_law_2187 : decode cL_law 2187 = .ok (.iload 4, 2) := by decide +kernel
theorem dL_law_2189 : decode cL_law 2189 = .ok (.iconst 1, 1) := by decide +kernel
theorem dL_law_2190 : decode cL_law 2190 = .ok (.iadd, 1) := by decide +kernel
theorem dL_law_2191 : decode cL_law 2191 = .ok (.iaload, 1) := by decide +kernel
theorem dL_law_2192 : decode cL_law 2192 = .ok (.invokevirtual 236, 3) := by decide +kernel
theorem dL_law_2195 : decode cL_law 2195 = .ok (.istore 6, 2) := by decide +kernel
theorem dL_law_2197 : decode cL_law 2197 = .ok (.aload_n 2, 1) := by decide +kernel
theorem dL_law_2198 : decode cL_law 2198 = .ok (.invokevirtual 127, 3) := by decide +kernel
theorem dL_law_2201 : decode cL_law 2201 = .ok (.iload 5, 2) := by decide +kernel
theorem dL_law_2203 : decode cL_law 2203 = .ok (.if_icmp .eq 5, 3) := by decide +kernel
theorem dL_law_2206 : decode cL_law 2206 = .ok (.iconst 0, 1) := by decide +kernel
theorem dL_law_2207 : decode cL_law 2207 = .ok (.ireturn, 1) := by decide +kernel
theorem dL_law_2208 : decode cL_law 2208 = .ok (.iload 5, 2) := by decide +kernel
theorem dL_law_2210 : decode cL_law 2210 = .ok (.ifCond .ne 22, 3) := by decide +kernel
theorem dL_law_2213 : decode cL_law 2213 = .ok (.aload_n 3, 1) := by decide +kernel
theorem dL_law_2214 : decode cL_law 2214 = .ok (.iconst 0, 1) := by decide +kernel
theorem dL_law_2215 : decode cL_law 2215 = .ok (.laload, 1) := by decide +kernel
theorem dL_law_2216 : decode cL_law 2216 = .ok (.iload 6, 2) := by decide +kernel
theorem dL_law_2218 : decode cL_law 2218 = .ok (.ifCond .eq 7, 3) := by decide +kernel
theorem dL_law_2221 : decode cL_law 2221 = .ok (.lconst 1, 1) := by decide +kernel
theorem dL_law_2222 : decode cL_law 2222 = .ok (.goto 4, 3) := by decide +kernel
theorem dL_law_2225 : decode cL_law 2225 = .ok (.lconst 0, 1) := by decide +kernel
theorem dL_law_2226 : decode cL_law 2226 = .ok (.lcmp, 1) := by decide +kernel
theorem dL_law_2227 : decode cL_law 2227 = .ok (.ifCond .eq 5, 3) := by decide +kernel
theorem dL_law_2230 : decode cL_law 2230 = .ok (.iconst 0, 1) := by decide +kernel
theorem dL_law_2231 : decode cL_law 2231 = .ok (.ireturn, 1) := by decide +kernel
theorem dL_law_2232 : decode cL_law 2232 = .ok (.goto 288, 3) := by decide +kernel
theorem dL_law_2235 : decode cL_law 2235 = .ok (.aload_n 1, 1) := by decide +kernel
theorem dL_law_2236 : decode cL_law 2236 = .ok (.aload_n 0, 1) := by decide +kernel
theorem dL_law_2237 : decode cL_law 2237 = .ok (.iload 4, 2) := by decide +kernel
theorem dL_law_2239 : decode cL_law 2239 = .ok (.iconst 1, 1) := by decide +kernel
theorem dL_law_2240 : decode cL_law 2240 = .ok (.iadd, 1) := by decide +kernel
theorem dL_law_2241 : decode cL_law 2241 = .ok (.iaload, 1) := by decide +kernel
theorem dL_law_2242 : decode cL_law 2242 = .ok (.aload_n 0, 1) := by decide +kernel
theorem dL_law_2243 : decode cL_law 2243 = .ok (.iload 4, 2) := by decide +kernel
theorem dL_law_2245 : decode cL_law 2245 = .ok (.iconst 2, 1) := by decide +kernel
theorem dL_law_2246 : decode cL_law 2246 = .ok (.iadd, 1) := by decide +kernel
theorem dL_law_2247 : decode cL_law 2247 = .ok (.iaload, 1) := by decide +kernel
theorem dL_law_2248 : decode cL_law 2248 = .ok (.aload_n 3, 1) := by decide +kernel
theorem dL_law_2249 : decode cL_law 2249 = .ok (.invokestatic 237, 3) := by decide +kernel
theorem dL_law_2252 : decode cL_law 2252 = .ok (.istore 5, 2) := by decide +kernel
theorem dL_law_2254 : decode cL_law 2254 = .ok (.aload_n 2, 1) := by decide +kernel
theorem dL_law_2255 : decode cL_law 2255 = .ok (.aload_n 0, 1) := by decide +kernel
theorem dL_law_2256 : decode cL_law 2256 = .ok (.iload 4, 2) := by decide +kernel
theorem dL_law_2258 : decode cL_law 2258 = .ok (.iconst 1, 1) := by decide +kernel
theorem dL_law_2259 : decode cL_law 2259 = .ok (.iadd, 1) := by decide +kernel
theorem dL_law_2260 : decode cL_law 2260 = .ok (.iaload, 1) := by decide +kernel
theorem dL_law_2261 : decode cL_law 2261 = .ok (.aload_n 0, 1) := by decide +kernel
theorem dL_law_2262 : decode cL_law 2262 = .ok (.iload 4, 2) := by decide +kernel
theorem dL_law_2264 : decode cL_law 2264 = .ok (.iconst 2, 1) := by decide +kernel
theorem dL_law_2265 : decode cL_law 2265 = .ok (.iadd, 1) := by decide +kernel
theorem dL_law_2266 : decode cL_law 2266 = .ok (.iaload, 1) := by decide +kernel
theorem dL_law_2267 : decode cL_law 2267 = .ok (.invokevirtual 239, 3) := by decide +kernel
theorem dL_law_2270 : decode cL_law 2270 = .ok (.istore 6, 2) := by decide +kernel
theorem dL_law_2272 : decode cL_law 2272 = .ok (.aload_n 2, 1) := by decide +kernel
theorem dL_law_2273 : decode cL_law 2273 = .ok (.invokevirtual 127, 3) := by decide +kernel
theorem dL_law_2276 : decode cL_law 2276 = .ok (.iload 5, 2) := by decide +kernel
theorem dL_law_2278 : decode cL_law 2278 = .ok (.if_icmp .eq 5, 3) := by decide +kernel
theorem dL_law_2281 : decode cL_law 2281 = .ok (.iconst 0, 1) := by decide +kernel
theorem dL_law_2282 : decode cL_law 2282 = .ok (.ireturn, 1) := by decide +kernel
theorem dL_law_2283 : decode cL_law 2283 = .ok (.iload 5, 2) := by decide +kernel
theorem dL_law_2285 : decode cL_law 2285 = .ok (.ifCond .ne 15, 3) := by decide +kernel
theorem dL_law_2288 : decode cL_law 2288 = .ok (.aload_n 3, 1) := by decide +kernel
theorem dL_law_2289 : decode cL_law 2289 = .ok (.iconst 0, 1) := by decide +kernel
theorem dL_law_2290 : decode cL_law 2290 = .ok (.laload, 1) := by decide +kernel
theorem dL_law_2291 : decode cL_law 2291 = .ok (.iload 6, 2) := by decide +kernel
theorem dL_law_2293 : decode cL_law 2293 = .ok (.i2l, 1) := by decide +kernel
theorem dL_law_2294 : decode cL_law 2294 = .ok (.lcmp, 1) := by decide +kernel
theorem dL_law_2295 : decode cL_law 2295 = .ok (.ifCond .eq 5, 3) := by decide +kernel
theorem dL_law_2298 : decode cL_law 2298 = .ok (.iconst 0, 1) := by decide +kernel
theorem dL_law_2299 : decode cL_law 2299 = .ok (.ireturn, 1) := by decide +kernel
theorem dL_law_2300 : decode cL_law 2300 = .ok (.goto 220, 3) := by decide +kernel
theorem dL_law_2303 : decode cL_law 2303 = .ok (.aload_n 1, 1) := by decide +kernel
theorem dL_law_2304 : decode cL_law 2304 = .ok (.aload_n 0, 1) := by decide +kernel
theorem dL_law_2305 : decode cL_law 2305 = .ok (.iload 4, 2) := by decide +kernel
theorem dL_law_2307 : decode cL_law 2307 = .ok (.iconst 1, 1) := by decide +kernel
theorem dL_law_2308 : decode cL_law 2308 = .ok (.iadd, 1) := by decide +kernel
theorem dL_law_2309 : decode cL_law 2309 = .ok (.iaload, 1) := by decide +kernel
theorem dL_law_2310 : decode cL_law 2310 = .ok (.aload_n 0, 1) := by decide +kernel
theorem dL_law_2311 : decode cL_law 2311 = .ok (.iload 4, 2) := by decide +kernel
theorem dL_law_2313 : decode cL_law 2313 = .ok (.iconst 2, 1) := by decide +kernel
theorem dL_law_2314 : decode cL_law 2314 = .ok (.iadd, 1) := by decide +kernel
theorem dL_law_2315 : decode cL_law 2315 = .ok (.iaload, 1) := by decide +kernel
theorem dL_law_2316 : decode cL_law 2316 = .ok (.aload_n 3, 1) := by decide +kernel
theorem dL_law_2317 : decode cL_law 2317 = .ok (.invokestatic 240, 3) := by decide +kernel
theorem dL_law_2320 : decode cL_law 2320 = .ok (.istore 5, 2) := by decide +kernel
theorem dL_law_2322 : decode cL_law 2322 = .ok (.aload_n 2, 1) := by decide +kernel
theorem dL_law_2323 : decode cL_law 2323 = .ok (.aload_n 0, 1) := by decide +kernel
theorem dL_law_2324 : decode cL_law 2324 = .ok (.iload 4, 2) := by decide +kernel
theorem dL_law_2326 : decode cL_law 2326 = .ok (.iconst 1, 1) := by decide +kernel
theorem dL_law_2327 : decode cL_law 2327 = .ok (.iadd, 1) := by decide +kernel
theorem dL_law_2328 : decode cL_law 2328 = .ok (.iaload, 1) := by decide +kernel
theorem dL_law_2329 : decode cL_law 2329 = .ok (.aload_n 0, 1) := by decide +kernel
theorem dL_law_2330 : decode cL_law 2330 = .ok (.iload 4, 2) := by decide +kernel
theorem dL_law_2332 : decode cL_law 2332 = .ok (.iconst 2, 1) := by decide +kernel
theorem dL_law_2333 : decode cL_law 2333 = .ok (.iadd, 1) := by decide +kernel
theorem dL_law_2334 : decode cL_law 2334 = .ok (.iaload, 1) := by decide +kernel
theorem dL_law_2335 : decode cL_law 2335 = .ok (.invokevirtual 242, 3) := by decide +kernel
theorem dL_law_2338 : decode cL_law 2338 = .ok (.istore 6, 2) := by decide +kernel
theorem dL_law_2340 : decode cL_law 2340 = .ok (.aload_n 2, 1) := by decide +kernel
theorem dL_law_2341 : decode cL_law 2341 = .ok (.invokevirtual 127, 3) := by decide +kernel
theorem dL_law_2344 : decode cL_law 2344 = .ok (.iload 5, 2) := by decide +kernel
theorem dL_law_2346 : decode cL_law 2346 = .ok (.if_icmp .eq 5, 3) := by decide +kernel
theorem dL_law_2349 : decode cL_law 2349 = .ok (.iconst 0, 1) := by decide +kernel
theorem dL_law_2350 : decode cL_law 2350 = .ok (.ireturn, 1) := by decide +kernel
theorem dL_law_2351 : decode cL_law 2351 = .ok (.iload 5, 2) := by decide +kernel
theorem dL_law_2353 : decode cL_law 2353 = .ok (.ifCond .ne 15, 3) := by decide +kernel
theorem dL_law_2356 : decode cL_law 2356 = .ok (.aload_n 3, 1) := by decide +kernel
theorem dL_law_2357 : decode cL_law 2357 = .ok (.iconst 0, 1) := by decide +kernel
theorem dL_law_2358 : decode cL_law 2358 = .ok (.laload, 1) := by decide +kernel
theorem dL_law_2359 : decode cL_law 2359 = .ok (.iload 6, 2) := by decide +kernel
theorem dL_law_2361 : decode cL_law 2361 = .ok (.i2l, 1) := by decide +kernel
theorem dL_law_2362 : decode cL_law 2362 = .ok (.lcmp, 1) := by decide +kernel
theorem dL_law_2363 : decode cL_law 2363 = .ok (.ifCond .eq 5, 3) := by decide +kernel
theorem dL_law_2366 : decode cL_law 2366 = .ok (.iconst 0, 1) := by decide +kernel
theorem dL_law_2367 : decode cL_law 2367 = .ok (.ireturn, 1) := by decide +kernel
theorem dL_law_2368 : decode cL_law 2368 = .ok (.goto 152, 3) := by decide +kernel
theorem dL_law_2371 : decode cL_law 2371 = .ok (.aload_n 1, 1) := by decide +kernel
theorem dL_law_2372 : decode cL_law 2372 = .ok (.aload_n 0, 1) := by decide +kernel
theorem dL_law_2373 : decode cL_law 2373 = .ok (.iload 4, 2) := by decide +kernel
theorem dL_law_2375 : decode cL_law 2375 = .ok (.iconst 1, 1) := by decide +kernel
theorem dL_law_2376 : decode cL_law 2376 = .ok (.iadd, 1) := by decide +kernel
theorem dL_law_2377 : decode cL_law 2377 = .ok (.iaload, 1) := by decide +kernel
theorem dL_law_2378 : decode cL_law 2378 = .ok (.aload_n 3, 1) := by decide +kernel
theorem dL_law_2379 : decode cL_law 2379 = .ok (.invokestatic 243, 3) := by decide +kernel
theorem dL_law_2382 : decode cL_law 2382 = .ok (.istore 5, 2) := by decide +kernel
theorem dL_law_2384 : decode cL_law 2384 = .ok (.aload_n 2, 1) := by decide +kernel
theorem dL_law_2385 : decode cL_law 2385 = .ok (.aload_n 0, 1) := by decide +kernel
theorem dL_law_2386 : decode cL_law 2386 = .ok (.iload 4, 2) := by decide +kernel
theorem dL_law_2388 : decode cL_law 2388 = .ok (.iconst 1, 1) := by decide +kernel
theorem dL_law_2389 : decode cL_law 2389 = .ok (.iadd, 1) := by decide +kernel
theorem dL_law_2390 : decode cL_law 2390 = .ok (.iaload, 1) := by decide +kernel
theorem dL_law_2391 : decode cL_law 2391 = .ok (.invokevirtual 245, 3) := by decide +kernel
theorem dL_law_2394 : decode cL_law 2394 = .ok (.istore 6, 2) := by decide +kernel
theorem dL_law_2396 : decode cL_law 2396 = .ok (.aload_n 2, 1) := by decide +kernel
theorem dL_law_2397 : decode cL_law 2397 = .ok (.invokevirtual 127, 3) := by decide +kernel
theorem dL_law_2400 : decode cL_law 2400 = .ok (.iload 5, 2) := by decide +kernel
theorem dL_law_2402 : decode cL_law 2402 = .ok (.if_icmp .eq 5, 3) := by decide +kernel
theorem dL_law_2405 : decode cL_law 2405 = .ok (.iconst 0, 1) := by decide +kernel
theorem dL_law_2406 : decode cL_law 2406 = .ok (.ireturn, 1) := by decide +kernel
theorem dL_law_2407 : decode cL_law 2407 = .ok (.iload 5, 2) := by decide +kernel
theorem dL_law_2409 : decode cL_law 2409 = .ok (.ifCond .ne 15, 3) := by decide +kernel
theorem dL_law_2412 : decode cL_law 2412 = .ok (.aload_n 3, 1) := by decide +kernel
theorem dL_law_2413 : decode cL_law 2413 = .ok (.iconst 0, 1) := by decide +kernel
theorem dL_law_2414 : decode cL_law 2414 = .ok (.laload, 1) := by decide +kernel
theorem dL_law_2415 : decode cL_law 2415 = .ok (.iload 6, 2) := by decide +kernel
theorem dL_law_2417 : decode cL_law 2417 = .ok (.i2l, 1) := by decide +kernel
theorem dL_law_2418 : decode cL_law 2418 = .ok (.lcmp, 1) := by decide +kernel
theorem dL_law_2419 : decode cL_law 2419 = .ok (.ifCond .eq 5, 3) := by decide +kernel
theorem dL_law_2422 : decode cL_law 2422 = .ok (.iconst 0, 1) := by decide +kernel
theorem dL_law_2423 : decode cL_law 2423 = .ok (.ireturn, 1) := by decide +kernel
theorem dL_law_2424 : decode cL_law 2424 = .ok (.goto 96, 3) := by decide +kernel
theorem dL_law_2427 : decode cL_law 2427 = .ok (.aload_n 1, 1) := by decide +kernel
theorem dL_law_2428 : decode cL_law 2428 = .ok (.aload_n 0, 1) := by decide +kernel
theorem dL_law_2429 : decode cL_law 2429 = .ok (.iload 4, 2) := by decide +kernel
theorem dL_law_2431 : decode cL_law 2431 = .ok (.iconst 1, 1) := by decide +kernel
theorem dL_law_2432 : decode cL_law 2432 = .ok (.iadd, 1) := by decide +kernel
theorem dL_law_2433 : decode cL_law 2433 = .ok (.iaload, 1) := by decide +kernel
theorem dL_law_2434 : decode cL_law 2434 = .ok (.aload_n 3, 1) := by decide +kernel
theorem dL_law_2435 : decode cL_law 2435 = .ok (.invokestatic 246, 3) := by decide +kernel
theorem dL_law_2438 : decode cL_law 2438 = .ok (.istore 5, 2) := by decide +kernel
theorem dL_law_2440 : decode cL_law 2440 = .ok (.aload_n 2, 1) := by decide +kernel
theorem dL_law_2441 : decode cL_law 2441 = .ok (.aload_n 0, 1) := by decide +kernel
theorem dL_law_2442 : decode cL_law 2442 = .ok (.iload 4, 2) := by decide +kernel
theorem dL_law_2444 : decode cL_law 2444 = .ok (.iconst 1, 1) := by decide +kernel
theorem dL_law_2445 : decode cL_law 2445 = .ok (.iadd, 1) := by decide +kernel
theorem dL_law_2446 : decode cL_law 2446 = .ok (.iaload, 1) := by decide +kernel
theorem dL_law_2447 : decode cL_law 2447 = .ok (.invokevirtual 248, 3) := by decide +kernel
theorem dL_law_2450 : decode cL_law 2450 = .ok (.istore 6, 2) := by decide +kernel
theorem dL_law_2452 : decode cL_law 2452 = .ok (.aload_n 2, 1) := by decide +kernel
theorem dL_law_2453 : decode cL_law 2453 = .ok (.invokevirtual 127, 3) := by decide +kernel
theorem dL_law_2456 : decode cL_law 2456 = .ok (.iload 5, 2) := by decide +kernel
theorem dL_law_2458 : decode cL_law 2458 = .ok (.if_icmp .eq 5, 3) := by decide +kernel
theorem dL_law_2461 : decode cL_law 2461 = .ok (.iconst 0, 1) := by decide +kernel
theorem dL_law_2462 : decode cL_law 2462 = .ok (.ireturn, 1) := by decide +kernel
theorem dL_law_2463 : decode cL_law 2463 = .ok (.iload 5, 2) := by decide +kernel
theorem dL_law_2465 : decode cL_law 2465 = .ok (.ifCond .ne 15, 3) := by decide +kernel
theorem dL_law_2468 : decode cL_law 2468 = .ok (.aload_n 3, 1) := by decide +kernel
theorem dL_law_2469 : decode cL_law 2469 = .ok (.iconst 0, 1) := by decide +kernel
theorem dL_law_2470 : decode cL_law 2470 = .ok (.laload, 1) := by decide +kernel
theorem dL_law_2471 : decode cL_law 2471 = .ok (.iload 6, 2) := by decide +kernel
theorem dL_law_2473 : decode cL_law 2473 = .ok (.i2l, 1) := by decide +kernel
theorem dL_law_2474 : decode cL_law 2474 = .ok (.lcmp, 1) := by decide +kernel
theorem dL_law_2475 : decode cL_law 2475 = .ok (.ifCond .eq 5, 3) := by decide +kernel
theorem dL_law_2478 : decode cL_law 2478 = .ok (.iconst 0, 1) := by decide +kernel
theorem dL_law_2479 : decode cL_law 2479 = .ok (.ireturn, 1) := by decide +kernel
theorem dL_law_2480 : decode cL_law 2480 = .ok (.goto 40, 3) := by decide +kernel
theorem dL_law_2483 : decode cL_law 2483 = .ok (.aload_n 1, 1) := by decide +kernel
theorem dL_law_2484 : decode cL_law 2484 = .ok (.invokevirtual 249, 3) := by decide +kernel
theorem dL_law_2487 : decode cL_law 2487 = .ok (.aload_n 2, 1) := by decide +kernel
theorem dL_law_2488 : decode cL_law 2488 = .ok (.invokevirtual 252, 3) := by decide +kernel
theorem dL_law_2491 : decode cL_law 2491 = .ok (.if_icmp .eq 29, 3) := by decide +kernel
theorem dL_law_2494 : decode cL_law 2494 = .ok (.iconst 0, 1) := by decide +kernel
theorem dL_law_2495 : decode cL_law 2495 = .ok (.ireturn, 1) := by decide +kernel
theorem dL_law_2496 : decode cL_law 2496 = .ok (.aload_n 1, 1) := by decide +kernel
theorem dL_law_2497 : decode cL_law 2497 = .ok (.invokevirtual 253, 3) := by decide +kernel
theorem dL_law_2500 : decode cL_law 2500 = .ok (.aload_n 2, 1) := by decide +kernel
theorem dL_law_2501 : decode cL_law 2501 = .ok (.invokevirtual 256, 3) := by decide +kernel
theorem dL_law_2504 : decode cL_law 2504 = .ok (.goto 16, 3) := by decide +kernel
theorem dL_law_2507 : decode cL_law 2507 = .ok (.aload_n 1, 1) := by decide +kernel
theorem dL_law_2508 : decode cL_law 2508 = .ok (.invokevirtual 257, 3) := by decide +kernel
theorem dL_law_2511 : decode cL_law 2511 = .ok (.aload_n 2, 1) := by decide +kernel
theorem dL_law_2512 : decode cL_law 2512 = .ok (.invokevirtual 261, 3) := by decide +kernel
theorem dL_law_2515 : decode cL_law 2515 = .ok (.if_icmp .eq 5, 3) := by decide +kernel
theorem dL_law_2518 : decode cL_law 2518 = .ok (.iconst 0, 1) := by decide +kernel
theorem dL_law_2519 : decode cL_law 2519 = .ok (.ireturn, 1) := by decide +kernel
theorem dL_law_2520 : decode cL_law 2520 = .ok (.iinc 4 6, 3) := by decide +kernel
theorem dL_law_2523 : decode cL_law 2523 = .ok (.goto (-2500), 3) := by decide +kernel
theorem dL_law_2526 : decode cL_law 2526 = .ok (.iconst 1, 1) := by decide +kernel
theorem dL_law_2527 : decode cL_law 2527 = .ok (.ireturn, 1) := by decide +kernel
