theorem dL_law_2042 : decode cL_law 2042 = .ok (.invokevirtual 219, 3) := by decide +kernel
theorem dL_law_2045 : decode cL_law 2045 = .ok (.istore 6, 2) := by decide +kernel
theorem dL_law_2047 : decode cL_law 2047 = .ok (.aload_n 2, 1) := by decide +kernel
theorem dL_law_2048 : decode cL_law 2048 = .ok (.invokevirtual 136, 3) := by decide +kernel
theorem dL_law_2051 : decode cL_law 2051 = .ok (.iload 5, 2) := by decide +kernel
theorem dL_law_2053 : decode cL_law 2053 = .ok (.if_icmp .eq 5, 3) := by decide +kernel
theorem dL_law_2056 : decode cL_law 2056 = .ok (.iconst 0, 1) := by decide +kernel
theorem dL_law_2057 : decode cL_law 2057 = .ok (.ireturn, 1) := by decide +kernel
theorem dL_law_2058 : decode cL_law 2058 = .ok (.iload 5, 2) := by decide +kernel
theorem dL_law_2060 : decode cL_law 2060 = .ok (.ifCond .ne 15, 3) := by decide +kernel
theorem dL_law_2063 : decode cL_law 2063 = .ok (.aload_n 3, 1) := by decide +kernel
theorem dL_law_2064 : decode cL_law 2064 = .ok (.iconst 0, 1) := by decide +kernel
theorem dL_law_2065 : decode cL_law 2065 = .ok (.laload, 1) := by decide +kernel
theorem dL_law_2066 : decode cL_law 2066 = .ok (.iload 6, 2) := by decide +kernel
theorem dL_law_2068 : decode cL_law 2068 = .ok (.i2l, 1) := by decide +kernel
theorem dL_law_2069 : decode cL_law 2069 = .ok (.lcmp, 1) := by decide +kernel
theorem dL_law_2070 : decode cL_law 2070 = .ok (.ifCond .eq 5, 3) := by decide +kernel
theorem dL_law_2073 : decode cL_law 2073 = .ok (.iconst 0, 1) := by decide +kernel
theorem dL_law_2074 : decode cL_law 2074 = .ok (.ireturn, 1) := by decide +kernel
theorem dL_law_2075 : decode cL_law 2075 = .ok (.goto 521, 3) := by decide +kernel
theorem dL_law_2078 : decode cL_law 2078 = .ok (.aload_n 1, 1) := by decide +kernel
theorem dL_law_2079 : decode cL_law 2079 = .ok (.aload_n 0, 1) := by decide +kernel
theorem dL_law_2080 : decode cL_law 2080 = .ok (.iload 4, 2) := by decide +kernel
theorem dL_law_2082 : decode cL_law 2082 = .ok (.iconst 1, 1) := by decide +kernel
theorem dL_law_2083 : decode cL_law 2083 = .ok (.iadd, 1) := by decide +kernel
theorem dL_law_2084 : decode cL_law 2084 = .ok (.iaload, 1) := by decide +kernel
theorem dL_law_2085 : decode cL_law 2085 = .ok (.aload_n 0, 1) := by decide +kernel
theorem dL_law_2086 : decode cL_law 2086 = .ok (.iload 4, 2) := by decide +kernel
theorem dL_law_2088 : decode cL_law 2088 = .ok (.iconst 2, 1) := by decide +kernel
theorem dL_law_2089 : decode cL_law 2089 = .ok (.iadd, 1) := by decide +kernel
theorem dL_law_2090 : decode cL_law 2090 = .ok (.iaload, 1) := by decide +kernel
theorem dL_law_2091 : decode cL_law 2091 = .ok (.aload_n 3, 1) := by decide +kernel
theorem dL_law_2092 : decode cL_law 2092 = .ok (.invokestatic 220, 3) := by decide +kernel
theorem dL_law_2095 : decode cL_law 2095 = .ok (.istore 5, 2) := by decide +kernel
theorem dL_law_2097 : decode cL_law 2097 = .ok (.aload_n 2, 1) := by decide +kernel
theorem dL_law_2098 : decode cL_law 2098 = .ok (.aload_n 0, 1) := by decide +kernel
theorem dL_law_2099 : decode cL_law 2099 = .ok (.iload 4, 2) := by decide +kernel
theorem dL_law_2101 : decode cL_law 2101 = .ok (.iconst 1, 1) := by decide +kernel
theorem dL_law_2102 : decode cL_law 2102 = .ok (.iadd, 1) := by decide +kernel
theorem dL_law_2103 : decode cL_law 2103 = .ok (.iaload, 1) := by decide +kernel
theorem dL_law_2104 : decode cL_law 2104 = .ok (.aload_n 0, 1) := by decide +kernel
theorem dL_law_2105 : decode cL_law 2105 = .ok (.iload 4, 2) := by decide +kernel
theorem dL_law_2107 : decode cL_law 2107 = .ok (.iconst 2, 1) := by decide +kernel
theorem dL_law_2108 : decode cL_law 2108 = .ok (.iadd, 1) := by decide +kernel
theorem dL_law_2109 : decode cL_law 2109 = .ok (.iaload, 1) := by decide +kernel
theorem dL_law_2110 : decode cL_law 2110 = .ok (.invokevirtual 222, 3) := by decide +kernel
theorem dL_law_2113 : decode cL_law 2113 = .ok (.istore 6, 2) := by decide +kernel
theorem dL_law_2115 : decode cL_law 2115 = .ok (.aload_n 2, 1) := by decide +kernel
theorem dL_law_2116 : decode cL_law 2116 = .ok (.invokevirtual 136, 3) := by decide +kernel
theorem dL_law_2119 : decode cL_law 2119 = .ok (.iload 5, 2) := by decide +kernel
theorem dL_law_2121 : decode cL_law 2121 = .ok (.if_icmp .eq 5, 3) := by decide +kernel
theorem dL_law_2124 : decode cL_law 2124 = .ok (.iconst 0, 1) := by decide +kernel
theorem dL_law_2125 : decode cL_law 2125 = .ok (.ireturn, 1) := by decide +kernel
theorem dL_law_2126 : decode cL_law 2126 = .ok (.iload 5, 2) := by decide +kernel
theorem dL_law_2128 : decode cL_law 2128 = .ok (.ifCond .ne 15, 3) := by decide +kernel
theorem dL_law_2131 : decode cL_law 2131 = .ok (.aload_n 3, 1) := by decide +kernel
theorem dL_law_2132 : decode cL_law 2132 = .ok (.iconst 0, 1) := by decide +kernel
theorem dL_law_2133 : decode cL_law 2133 = .ok (.laload, 1) := by decide +kernel
theorem dL_law_2134 : decode cL_law 2134 = .ok (.iload 6, 2) := by decide +kernel
theorem dL_law_2136 : decode cL_law 2136 = .ok (.i2l, 1) := by decide +kernel
theorem dL_law_2137 : decode cL_law 2137 = .ok (.lcmp, 1) := by decide +kernel
theorem dL_law_2138 : decode cL_law 2138 = .ok (.ifCond .eq 5, 3) := by decide +kernel
theorem dL_law_2141 : decode cL_law 2141 = .ok (.iconst 0, 1) := by decide +kernel
theorem dL_law_2142 : decode cL_law 2142 = .ok (.ireturn, 1) := by decide +kernel
theorem dL_law_2143 : decode cL_law 2143 = .ok (.goto 453, 3) := by decide +kernel
theorem dL_law_2146 : decode cL_law 2146 = .ok (.aload_n 1, 1) := by decide +kernel
theorem dL_law_2147 : decode cL_law 2147 = .ok (.aload_n 0, 1) := by decide +kernel
theorem dL_law_2148 : decode cL_law 2148 = .ok (.iload 4, 2) := by decide +kernel
theorem dL_law_2150 : decode cL_law 2150 = .ok (.iconst 1, 1) := by decide +kernel
theorem dL_law_2151 : decode cL_law 2151 = .ok (.iadd, 1) := by decide +kernel
theorem dL_law_2152 : decode cL_law 2152 = .ok (.iaload, 1) := by decide +kernel
theorem dL_law_2153 : decode cL_law 2153 = .ok (.aload_n 0, 1) := by decide +kernel
theorem dL_law_2154 : decode cL_law 2154 = .ok (.iload 4, 2) := by decide +kernel
theorem dL_law_2156 : decode cL_law 2156 = .ok (.iconst 2, 1) := by decide +kernel
theorem dL_law_2157 : decode cL_law 2157 = .ok (.iadd, 1) := by decide +kernel
theorem dL_law_2158 : decode cL_law 2158 = .ok (.iaload, 1) := by decide +kernel
theorem dL_law_2159 : decode cL_law 2159 = .ok (.aload_n 3, 1) := by decide +kernel
theorem dL_law_2160 : decode cL_law 2160 = .ok (.invokestatic 223, 3) := by decide +kernel
theorem dL_law_2163 : decode cL_law 2163 = .ok (.istore 5, 2) := by decide +kernel
theorem dL_law_2165 : decode cL_law 2165 = .ok (.aload_n 2, 1) := by decide +kernel
theorem dL_law_2166 : decode cL_law 2166 = .ok (.aload_n 0, 1) := by decide +kernel
theorem dL_law_2167 : decode cL_law 2167 = .ok (.iload 4, 2) := by decide +kernel
theorem dL_law_2169 : decode cL_law 2169 = .ok (.iconst 1, 1) := by decide +kernel
theorem dL_law_2170 : decode cL_law 2170 = .ok (.iadd, 1) := by decide +kernel
theorem dL_law_2171 : decode cL_law 2171 = .ok (.iaload, 1) := by decide +kernel
theorem dL_law_2172 : decode cL_law 2172 = .ok (.aload_n 0, 1) := by decide +kernel
theorem dL_law_2173 : decode cL_law 2173 = .ok (.iload 4, 2) := by decide +kernel
theorem dL_law_2175 : decode cL_law 2175 = .ok (.iconst 2, 1) := by decide +kernel
theorem dL_law_2176 : decode cL_law 2176 = .ok (.iadd, 1) := by decide +kernel
theorem dL_law_2177 : decode cL_law 2177 = .ok (.iaload, 1) := by decide +kernel
theorem dL_law_2178 : decode cL_law 2178 = .ok (.invokevirtual 225, 3) := by decide +kernel
theorem dL_law_2181 : decode cL_law 2181 = .ok (.istore 6, 2) := by decide +kernel
theorem dL_law_2183 : decode cL_law 2183 = .ok (.aload_n 2, 1) := by decide +kernel
theorem dL_law_2184 : decode cL_law 2184 = .ok (.invokevirtual 136, 3) := by decide +kernel
theorem dL_law_2187 : decode cL_law 2187 = .ok (.iload 5, 2) := by decide +kernel
theorem dL_law_2189 : decode cL_law 2189 = .ok (.if_icmp .eq 5, 3) := by decide +kernel
theorem dL_law_2192 : decode cL_law 2192 = .ok (.iconst 0, 1) := by decide +kernel
theorem dL_law_2193 : decode cL_law 2193 = .ok (.ireturn, 1) := by decide +kernel
theorem dL_law_2194 : decode cL_law 2194 = .ok (.iload 5, 2) := by decide +kernel
theorem dL_law_2196 : decode cL_law 2196 = .ok (.ifCond .ne 15, 3) := by decide +kernel
theorem dL_law_2199 : decode cL_law 2199 = .ok (.aload_n 3, 1) := by decide +kernel
theorem dL_law_2200 : decode cL_law 2200 = .ok (.iconst 0, 1) := by decide +kernel
theorem dL_law_2201 : decode cL_law 2201 = .ok (.laload, 1) := by decide +kernel
theorem dL_law_2202 : decode cL_law 2202 = .ok (.iload 6, 2) := by decide +kernel
theorem dL_law_2204 : decode cL_law 2204 = .ok (.i2l, 1) := by decide +kernel
theorem dL_law_2205 : decode cL_law 2205 = .ok (.lcmp, 1) := by decide +kernel
theorem dL_law_2206 : decode cL_law 2206 = .ok (.ifCond .eq 5, 3) := by decide +kernel
theorem dL_law_2209 : decode cL_law 2209 = .ok (.iconst 0, 1) := by decide +kernel
theorem dL_law_2210 : decode cL_law 2210 = .ok (.ireturn, 1) := by decide +kernel
theorem dL_law_2211 : decode cL_law 2211 = .ok (.goto 385, 3) := by decide +kernel
theorem dL_law_2214 : decode cL_law 2214 = .ok (.aload_n 1, 1) := by decide +kernel
theorem dL_law_2215 : decode cL_law 2215 = .ok (.aload_n 0, 1) := by decide +kernel
theorem dL_law_2216 : decode cL_law 2216 = .ok (.iload 4, 2) := by decide +kernel
theorem dL_law_2218 : decode cL_law 2218 = .ok (.iconst 1, 1) := by decide +kernel
theorem dL_law_2219 : decode cL_law 2219 = .ok (.iadd, 1) := by decide +kernel
theorem dL_law_2220 : decode cL_law 2220 = .ok (.iaload, 1) := by decide +kernel
theorem dL_law_2221 : decode cL_law 2221 = .ok (.aload_n 0, 1) := by decide +kernel
theorem dL_law_2222 : decode cL_law 2222 = .ok (.iload 4, 2) := by decide +kernel
theorem dL_law_2224 : decode cL_law 2224 = .ok (.iconst 2, 1) := by decide +kernel
theorem dL_law_2225 : decode cL_law 2225 = .ok (.iadd, 1) := by decide +kernel
theorem dL_law_2226 : decode cL_law 2226 = .ok (.iaload, 1) := by decide +kernel
theorem dL_law_2227 : decode cL_law 2227 = .ok (.aload_n 0, 1) := by decide +kernel
theorem dL_law_2228 : decode cL_law 2228 = .ok (.iload 4, 2) := by decide +kernel
theorem dL_law_2230 : decode cL_law 2230 = .ok (.iconst 3, 1) := by decide +kernel
theorem dL_law_2231 : decode cL_law 2231 = .ok (.iadd, 1) := by decide +kernel
theorem dL_law_2232 : decode cL_law 2232 = .ok (.iaload, 1) := by decide +kernel
theorem dL_law_2233 : decode cL_law 2233 = .ok (.aload_n 3, 1) := by decide +kernel
theorem dL_law_2234 : decode cL_law 2234 = .ok (.invokestatic 226, 3) := by decide +kernel
theorem dL_law_2237 : decode cL_law 2237 = .ok (.istore 5, 2) := by decide +kernel
theorem dL_law_2239 : decode cL_law 2239 = .ok (.aload_n 2, 1) := by decide +kernel
theorem dL_law_2240 : decode cL_law 2240 = .ok (.aload_n 0, 1) := by decide +kernel
theorem dL_law_2241 : decode cL_law 2241 = .ok (.iload 4, 2) := by decide +kernel
theorem dL_law_2243 : decode cL_law 2243 = .ok (.iconst 1, 1) := by decide +kernel
theorem dL_law_2244 : decode cL_law 2244 = .ok (.iadd, 1) := by decide +kernel
theorem dL_law_2245 : decode cL_law 2245 = .ok (.iaload, 1) := by decide +kernel
theorem dL_law_2246 : decode cL_law 2246 = .ok (.aload_n 0, 1) := by decide +kernel
theorem dL_law_2247 : decode cL_law 2247 = .ok (.iload 4, 2) := by decide +kernel
theorem dL_law_2249 : decode cL_law 2249 = .ok (.iconst 2, 1) := by decide +kernel
theorem dL_law_2250 : decode cL_law 2250 = .ok (.iadd, 1) := by decide +kernel
theorem dL_law_2251 : decode cL_law 2251 = .ok (.iaload, 1) := by decide +kernel
theorem dL_law_2252 : decode cL_law 2252 = .ok (.aload_n 0, 1) := by decide +kernel
theorem dL_law_2253 : decode cL_law 2253 = .ok (.iload 4, 2) := by decide +kernel
theorem dL_law_2255 : decode cL_law 2255 = .ok (.iconst 3, 1) := by decide +kernel
theorem dL_law_2256 : decode cL_law 2256 = .ok (.iadd, 1) := by decide +kernel
theorem dL_law_2257 : decode cL_law 2257 = .ok (.iaload, 1) := by decide +kernel
theorem dL_law_2258 : decode cL_law 2258 = .ok (.invokevirtual 228, 3) := by decide +kernel
theorem dL_law_2261 : decode cL_law 2261 = .ok (.istore 6, 2) := by decide +kernel
theorem dL_law_2263 : decode cL_law 2263 = .ok (.aload_n 2, 1) := by decide +kernel
theorem dL_law_2264 : decode cL_law 2264 = .ok (.invokevirtual 136, 3) := by decide +kernel
theorem dL_law_2267 : decode cL_law 2267 = .ok (.iload 5, 2) := by decide +kernel
theorem dL_law_2269 : decode cL_law 2269 = .ok (.if_icmp .eq 5, 3) := by decide +kernel
theorem dL_law_2272 : decode cL_law 2272 = .ok (.iconst 0, 1) := by decide +kernel
theorem dL_law_2273 : decode cL_law 2273 = .ok (.ireturn, 1) := by decide +kernel
theorem dL_law_2274 : decode cL_law 2274 = .ok (.iload 5, 2) := by decide +kernel
theorem dL_law_2276 : decode cL_law 2276 = .ok (.ifCond .ne 15, 3) := by decide +kernel
theorem dL_law_2279 : decode cL_law 2279 = .ok (.aload_n 3, 1) := by decide +kernel
theorem dL_law_2280 : decode cL_law 2280 = .ok (.iconst 0, 1) := by decide +kernel
theorem dL_law_2281 : decode cL_law 2281 = .ok (.laload, 1) := by decide +kernel
theorem dL_law_2282 : decode cL_law 2282 = .ok (.iload 6, 2) := by decide +kernel
theorem dL_law_2284 : decode cL_law 2284 = .ok (.i2l, 1) := by decide +kernel
theorem dL_law_2285 : decode cL_law 2285 = .ok (.lcmp, 1) := by decide +kernel
theorem dL_law_2286 : decode cL_law 2286 = .ok (.ifCond .eq 5, 3) := by decide +kernel
theorem dL_law_2289 : decode cL_law 2289 = .ok (.iconst 0, 1) := by decide +kernel
theorem dL_law_2290 : decode cL_law 2290 = .ok (.ireturn, 1) := by decide +kernel
theorem dL_law_2291 : decode cL_law 2291 = .ok (.goto 305, 3) := by decide +kernel
theorem dL_law_2294 : decode cL_law 2294 = .ok (.aload_n 1, 1) := by decide +kernel
theorem dL_law_2295 : decode cL_law 2295 = .ok (.aload_n 0, 1) := by decide +kernel
theorem dL_law_2296 : decode cL_law 2296 = .ok (.iload 4, 2) := by decide +kernel
theorem dL_law_2298 : decode cL_law 2298 = .ok (.iconst 1, 1) := by decide +kernel
theorem dL_law_2299 : decode cL_law 2299 = .ok (.iadd, 1) := by decide +kernel
theorem dL_law_2300 : decode cL_law 2300 = .ok (.iaload, 1) := by decide +kernel
theorem dL_law_2301 : decode cL_law 2301 = .ok (.aload_n 0, 1) := by decide +kernel
theorem dL_law_2302 : decode cL_law 2302 = .ok (.iload 4, 2) := by decide +kernel
theorem dL_law_2304 : decode cL_law 2304 = .ok (.iconst 2, 1) := by decide +kernel
theorem dL_law_2305 : decode cL_law 2305 = .ok (.iadd, 1) := by decide +kernel
theorem dL_law_2306 : decode cL_law 2306 = .ok (.iaload, 1) := by decide +kernel
theorem dL_law_2307 : decode cL_law 2307 = .ok (.aload_n 0, 1) := by decide +kernel
theorem dL_law_2308 : decode cL_law 2308 = .ok (.iload 4, 2) := by decide +kernel
theorem dL_law_2310 : decode cL_law 2310 = .ok (.iconst 3, 1) := by decide +kernel
theorem dL_law_2311 : decode cL_law 2311 = .ok (.iadd, 1) := by decide +kernel
theorem dL_law_2312 : decode cL_law 2312 = .ok (.iaload, 1) := by decide +kernel
theorem dL_law_2313 : decode cL_law 2313 = .ok (.aload_n 3, 1) := by decide +kernel
theorem dL_law_2314 : decode cL_law 2314 = .ok (.invokestatic 229, 3) := by decide +kernel
theorem dL_law_2317 : decode cL_law 2317 = .ok (.istore 5, 2) := by decide +kernel
theorem dL_law_2319 : decode cL_law 2319 = .ok (.aload_n 2, 1) := by decide +kernel
theorem dL_law_2320 : decode cL_law 2320 = .ok (.aload_n 0, 1) := by decide +kernel
theorem dL_law_2321 : decode cL_law 2321 = .ok (.iload 4, 2) := by decide +kernel
theorem dL_law_2323 : decode cL_law 2323 = .ok (.iconst 1, 1) := by decide +kernel
theorem dL_law_2324 : decode cL_law 2324 = .ok (.iadd, 1) := by decide +kernel
theorem dL_law_2325 : decode cL_law 2325 = .ok (.iaload, 1) := by decide +kernel
theorem dL_law_2326 : decode cL_law 2326 = .ok (.aload_n 0, 1) := by decide +kernel
theorem dL_law_2327 : decode cL_law 2327 = .ok (.iload 4, 2) := by decide +kernel
theorem dL_law_2329 : decode cL_law 2329 = .ok (.iconst 2, 1) := by decide +kernel
theorem dL_law_2330 : decode cL_law 2330 = .ok (.iadd, 1) := by decide +kernel
theorem dL_law_2331 : decode cL_law 2331 = .ok (.iaload, 1) := by decide +kernel
theorem dL_law_2332 : decode cL_law 2332 = .ok (.aload_n 0, 1) := by decide +kernel
theorem dL_law_2333 : decode cL_law 2333 = .ok (.iload 4, 2) := by decide +kernel
theorem dL_law_2335 : decode cL_law 2335 = .ok (.iconst 3, 1) := by decide +kernel
theorem dL_law_2336 : decode cL_law 2336 = .ok (.iadd, 1) := by decide +kernel
theorem dL_law_2337 : decode cL_law 2337 = .ok (.iaload, 1) := by decide +kernel
theorem dL_law_2338 : decode cL_law 2338 = .ok (.invokevirtual 231, 3) := by decide +kernel
theorem dL_law_2341 : decode cL_law 2341 = .ok (.istore 6, 2) := by decide +kernel
theorem dL_law_2343 : decode cL_law 2343 = .ok (.aload_n 2, 1) := by decide +kernel
theorem dL_law_2344 : decode cL_law 2344 = .ok (.invokevirtual 136, 3) := by decide +kernel
theorem dL_law_2347 : decode cL_law 2347 = .ok (.iload 5, 2) := by decide +kernel
theorem dL_law_2349 : decode cL_law 2349 = .ok (.if_icmp .eq 5, 3) := by decide +kernel
theorem dL_law_2352 : decode cL_law 2352 = .ok (.iconst 0, 1) := by decide +kernel
theorem dL_law_2353 : decode cL_law 2353 = .ok (.ireturn, 1) := by decide +kernel
theorem dL_law_2354 : decode cL_law 2354 = .ok (.iload 5, 2) := by decide +kernel
theorem dL_law_2356 : decode cL_law 2356 = .ok (.ifCond .ne 15, 3) := by decide +kernel
theorem dL_law_2359 : decode cL_law 2359 = .ok (.aload_n 3, 1) := by decide +kernel
theorem dL_law_2360 : decode cL_law 2360 = .ok (.iconst 0, 1) := by decide +kernel
theorem dL_law_2361 : decode cL_law 2361 = .ok (.laload, 1) := by decide +kernel
theorem dL_law_2362 : decode cL_law 2362 = .ok (.iload 6, 2) := by decide +kernel
theorem dL_law_2364 : decode cL_law 2364 = .ok (.i2l, 1) := by decide +kernel
theorem dL_law_2365 : decode cL_law 2365 = .ok (.lcmp, 1) := by decide +kernel
theorem dL_law_2366 : decode cL_law 2366 = .ok (.ifCond .eq 5, 3) := by decide +kernel
theorem dL_law_2369 : decode cL_law 2369 = .ok (.iconst 0, 1) := by decide +kernel
theorem dL_law_2370 : decode cL_law 2370 = .ok (.ireturn, 1) := by decide +kernel
theorem dL_law_2371 : decode cL_law 2371 = .ok (.goto 225, 3) := by decide +kernel
theorem dL_law_2374 : decode cL_law 2374 = .ok (.aload_n 1, 1) := by decide +kernel
theorem dL_law_2375 : decode cL_law 2375 = .ok (.aload_n 0, 1) := by decide +kernel
theorem dL_law_2376 : decode cL_law 2376 = .ok (.iload 4, 2) := by decide +kernel
theorem dL_law_2378 : decode cL_law 2378 = .ok (.iconst 1, 1) := by decide +kernel
theorem dL_law_2379 : decode cL_law 2379 = .ok (.iadd, 1) := by decide +kernel
theorem dL_law_2380 : decode cL_law 2380 = .ok (.iaload, 1) := by decide +kernel
theorem dL_law_2381 : decode cL_law 2381 = .ok (.aload_n 3, 1) := by decide +kernel
theorem dL_law_2382 : decode cL_law 2382 = .ok (.invokestatic 232, 3) := by decide +kernel
theorem dL_law_2385 : decode cL_law 2385 = .ok (.istore 5, 2) := by decide +kernel
theorem dL_law_2387 : decode cL_law 2387 = .ok (.aload_n 2, 1) := by decide +kernel
theorem dL_law_2388 : decode cL_law 2388 = .ok (.aload_n 0, 1) := by decide +kernel
theorem dL_law_2389 : decode cL_law 2389 = .ok (.iload 4, 2) := by decide +kernel
theorem dL_law_2391 : decode cL_law 2391 = .ok (.iconst 1, 1) := by decide +kernel
theorem dL_law_2392 : decode cL_law 2392 = .ok (.iadd, 1) := by decide +kernel
theorem dL_law_2393 : decode cL_law 2393 = .ok (.iaload, 1) := by decide +kernel
theorem dL_law_2394 : decode cL_law 2394 = .ok (.invokevirtual 234, 3) := by decide +kernel
theorem dL_law_2397 : decode cL_law 2397 = .ok (.istore 6, 2) := by decide +kernel
theorem dL_law_2399 : decode cL_law 2399 = .ok (.aload_n 2, 1) := by decide +kernel
theorem dL_law_2400 : decode cL_law 2400 = .ok (.invokevirtual 136, 3) := by decide +kernel
theorem dL_law_2403 : decode cL_law 2403 = .ok (.iload 5, 2) := by decide +kernel
theorem dL_law_2405 : decode cL_law 2405 = .ok (.if_icmp .eq 5, 3) := by decide +kernel
theorem dL_law_2408 : decode cL_law 2408 = .ok (.iconst 0, 1) := by decide +kernel
theorem dL_law_2409 : decode cL_law 2409 = .ok (.ireturn, 1) := by decide +kernel
theorem dL_law_2410 : decode cL_law 2410 = .ok (.iload 5, 2) := by decide +kernel
theorem dL_law_2412 : decode cL_law 2412 = .ok (.ifCond .ne 15, 3) := by decide +kernel
theorem dL_law_2415 : decode cL_law 2415 = .ok (.aload_n 3, 1) := by decide +kernel
theorem dL_law_2416 : decode cL_law 2416 = .ok (.iconst 0, 1) := by decide +kernel
theorem dL_law_2417 : decode cL_law 2417 = .ok (.laload, 1) := by decide +kernel
theorem dL_law_2418 : decode cL_law 2418 = .ok (.iload 6, 2) := by decide +kernel
theorem dL_law_2420 : decode cL_law 2420 = .ok (.i2l, 1) := by decide +kernel
theorem dL_law_2421 : decode cL_law 2421 = .ok (.lcmp, 1) := by decide +kernel
theorem dL_law_2422 : decode cL_law 2422 = .ok (.ifCond .eq 5, 3) := by decide +kernel
theorem dL_law_2425 : decode cL_law 2425 = .ok (.iconst 0, 1) := by decide +kernel
theorem dL_law_2426 : decode cL_law 2426 = .ok (.ireturn, 1) := by decide +kernel
theorem dL_law_2427 : decode cL_law 2427 = .ok (.goto 169, 3) := by decide +kernel
theorem dL_law_2430 : decode cL_law 2430 = .ok (.aload_n 1, 1) := by decide +kernel
theorem dL_law_2431 : decode cL_law 2431 = .ok (.aload_n 0, 1) := by decide +kernel
theorem dL_law_2432 : decode cL_law 2432 = .ok (.iload 4, 2) := by decide +kernel
theorem dL_law_2434 : decode cL_law 2434 = .ok (.iconst 1, 1) := by decide +kernel
theorem dL_law_2435 : decode cL_law 2435 = .ok (.iadd, 1) := by decide +kernel
theorem dL_law_2436 : decode cL_law 2436 = .ok (.iaload, 1) := by decide +kernel
theorem dL_law_2437 : decode cL_law 2437 = .ok (.aload_n 3, 1) := by decide +kernel
theorem dL_law_2438 : decode cL_law 2438 = .ok (.invokestatic 235, 3) := by decide +kernel
theorem dL_law_2441 : decode cL_law 2441 = .ok (.istore 5, 2) := by decide +kernel
theorem dL_law_2443 : decode cL_law 2443 = .ok (.aload_n 2, 1) := by decide +kernel
theorem dL_law_2444 : decode cL_law 2444 = .ok (.aload_n 0, 1) := by decide +kernel
theorem dL_law_2445 : decode cL_law 2445 = .ok (.iload 4, 2) := by decide +kernel
theorem dL_law_2447 : decode cL_law 2447 = .ok (.iconst 1, 1) := by decide +kernel
theorem dL_law_2448 : decode cL_law 2448 = .ok (.iadd, 1) := by decide +kernel
theorem dL_law_2449 : decode cL_law 2449 = .ok (.iaload, 1) := by decide +kernel
theorem dL_law_2450 : decode cL_law 2450 = .ok (.invokevirtual 237, 3) := by decide +kernel
theorem dL_law_2453 : decode cL_law 2453 = .ok (.istore 6, 2) := by decide +kernel
theorem dL_law_2455 : decode cL_law 2455 = .ok (.aload_n 2, 1) := by decide +kernel
theorem dL_law_2456 : decode cL_law 2456 = .ok (.invokevirtual 136, 3) := by decide +kernel
theorem dL_law_2459 : decode cL_law 2459 = .ok (.iload 5, 2) := by decide +kernel
theorem dL_law_2461 : decode cL_law 2461 = .ok (.if_icmp .eq 5, 3) := by decide +kernel
theorem dL_law_2464 : decode cL_law 2464 = .ok (.iconst 0, 1) := by decide +kernel
theorem dL_law_2465 : decode cL_law 2465 = .ok (.ireturn, 1) := by decide +kernel
theorem dL_law_2466 : decode cL_law 2466 = .ok (.iload 5, 2) := by decide +kernel
theorem dL_law_2468 : decode cL_law 2468 = .ok (.ifCond .ne 15, 3) := by decide +kernel
theorem dL_law_2471 : decode cL_law 2471 = .ok (.aload_n 3, 1) := by decide +kernel
theorem dL_law_2472 : decode cL_law 2472 = .ok (.iconst 0, 1) := by decide +kernel
theorem dL_law_2473 : decode cL_law 2473 = .ok (.laload, 1) := by decide +kernel
theorem dL_law_2474 : decode cL_law 2474 = .ok (.iload 6, 2) := by decide +kernel
theorem dL_law_2476 : decode cL_law 2476 = .ok (.i2l, 1) := by decide +kernel
theorem dL_law_2477 : decode cL_law 2477 = .ok (.lcmp, 1) := by decide +kernel
theorem dL_law_2478 : decode cL_law 2478 = .ok (.ifCond .eq 5, 3) := by decide +kernel
theorem dL_law_2481 : decode cL_law 2481 = .ok (.iconst 0, 1) := by decide +kernel
theorem dL_law_2482 : decode cL_law 2482 = .ok (.ireturn, 1) := by decide +kernel
theorem dL_law_2483 : decode cL_law 2483 = .ok (.goto 113, 3) := by decide +kernel
theorem dL_law_2486 : decode cL_law 2486 = .ok (.aload_n 1, 1) := by decide +kernel
theorem dL_law_2487 : decode cL_law 2487 = .ok (.aload_n 0, 1) := by decide +kernel
theorem dL_law_2488 : decode cL_law 2488 = .ok (.iload 4, 2) := by decide +kernel
theorem dL_law_2490 : decode cL_law 2490 = .ok (.iconst 1, 1) := by decide +kernel
theorem dL_law_2491 : decode cL_law 2491 = .ok (.iadd, 1) := by decide +kernel
theorem dL_law_2492 : decode cL_law 2492 = .ok (.iaload, 1) := by decide +kernel
theorem dL_law_2493 : decode cL_law 2493 = .ok (.aload_n 3, 1) := by decide +kernel
theorem dL_law_2494 : decode cL_law 2494 = .ok (.invokestatic 238, 3) := by decide +kernel
theorem dL_law_2497 : decode cL_law 2497 = .ok (.istore 5, 2) := by decide +kernel
theorem dL_law_2499 : decode cL_law 2499 = .ok (.aload_n 2, 1) := by decide +kernel
theorem dL_law_2500 : decode cL_law 2500 = .ok (.aload_n 0, 1) := by decide +kernel
theorem dL_law_2501 : decode cL_law 2501 = .ok (.iload 4, 2) := by decide +kernel
theorem dL_law_2503 : decode cL_law 2503 = .ok (.iconst 1, 1) := by decide +kernel
theorem dL_law_2504 : decode cL_law 2504 = .ok (.iadd, 1) := by decide +kernel
theorem dL_law_2505 : decode cL_law 2505 = .ok (.iaload, 1) := by decide +kernel
theorem dL_law_2506 : decode cL_law 2506 = .ok (.invokevirtual 240, 3) := by decide +kernel
theorem dL_law_2509 : decode cL_law 2509 = .ok (.lstore 6, 2) := by decide +kernel
theorem dL_law_2511 : decode cL_law 2511 = .ok (.aload_n 2, 1) := by decide +kernel
theorem dL_law_2512 : decode cL_law 2512 = .ok (.invokevirtual 136, 3) := by decide +kernel
theorem dL_law_2515 : decode cL_law 2515 = .ok (.iload 5, 2) := by decide +kernel
theorem dL_law_2517 : decode cL_law 2517 = .ok (.if_icmp .eq 5, 3) := by decide +kernel
theorem dL_law_2520 : decode cL_law 2520 = .ok (.iconst 0, 1) := by decide +kernel
theorem dL_law_2521 : decode cL_law 2521 = .ok (.ireturn, 1) := by decide +kernel
theorem dL_law_2522 : decode cL_law 2522 = .ok (.iload 5, 2) := by decide +kernel
theorem dL_law_2524 : decode cL_law 2524 = .ok (.ifCond .ne 14, 3) := by decide +kernel
theorem dL_law_2527 : decode cL_law 2527 = .ok (.aload_n 3, 1) := by decide +kernel
theorem dL_law_2528 : decode cL_law 2528 = .ok (.iconst 0, 1) := by decide +kernel
theorem dL_law_2529 : decode cL_law 2529 = .ok (.laload, 1) := by decide +kernel
theorem dL_law_2530 : decode cL_law 2530 = .ok (.lload 6, 2) := by decide +kernel
theorem dL_law_2532 : decode cL_law 2532 = .ok (.lcmp, 1) := by decide +kernel
theorem dL_law_2533 : decode cL_law 2533 = .ok (.ifCond .eq 5, 3) := by decide +kernel
theorem dL_law_2536 : decode cL_law 2536 = .ok (.iconst 0, 1) := by decide +kernel
theorem dL_law_2537 : decode cL_law 2537 = .ok (.ireturn, 1) := by decide +kernel
theorem dL_law_2538 : decode cL_law 2538 = .ok (.goto 58, 3) := by decide +kernel
theorem dL_law_2541 : decode cL_law 2541 = .ok (.aload_n 1, 1) := by decide +kernel
theorem dL_law_2542 : decode cL_law 2542 = .ok (.aload_n 0, 1) := by decide +kernel
theorem dL_law_2543 : decode cL_law 2543 = .ok (.iload 4, 2) := by decide +kernel
theorem dL_law_2545 : decode cL_law 2545 = .ok (.iconst 1, 1) := by decide +kernel
theorem dL_law_2546 : decode cL_law 2546 = .ok (.iadd, 1) := by decide +kernel
theorem dL_law_2547 : decode cL_law 2547 = .ok (.iaload, 1) := by decide +kernel
theorem dL_law_2548 : decode cL_law 2548 = .ok (.aload_n 3, 1) := by decide +kernel
theorem dL_law_2549 : decode cL_law 2549 = .ok (.invokestatic 241, 3) := by decide +kernel
theorem dL_law_2552 : decode cL_law 2552 = .ok (.istore 5, 2) := by decide +kernel
theorem dL_law_2554 : decode cL_law 2554 = .ok (.aload_n 2, 1) := by decide +kernel
theorem dL_law_2555 : decode cL_law 2555 = .ok (.aload_n 0, 1) := by decide +kernel
theorem dL_law_2556 : decode cL_law 2556 = .ok (.iload 4, 2) := by decide +kernel
theorem dL_law_2558 : decode cL_law 2558 = .ok (.iconst 1, 1) := by decide +kernel
theorem dL_law_2559 : decode cL_law 2559 = .ok (.iadd, 1) := by decide +kernel
theorem dL_law_2560 : decode cL_law 2560 = .ok (.iaload, 1) := by decide +kernel
theorem dL_law_2561 : decode cL_law 2561 = .ok (.invokevirtual 243, 3) := by decide +kernel
theorem dL_law_2564 : decode cL_law 2564 = .ok (.lstore 6, 2) := by decide +kernel
theorem dL_law_2566 : decode cL_law 2566 = .ok (.aload_n 2, 1) := by decide +kernel
theorem dL_law_2567 : decode cL_law 2567 = .ok (.invokevirtual 136, 3) := by decide +kernel
theorem dL_law_2570 : decode cL_law 2570 = .ok (.iload 5, 2) := by decide +kernel
theorem dL_law_2572 : decode cL_law 2572 = .ok (.if_icmp .eq 5, 3) := by decide +kernel
theorem dL_law_2575 : decode cL_law 2575 = .ok (.iconst 0, 1) := by decide +kernel
theorem dL_law_2576 : decode cL_law 2576 = .ok (.ireturn, 1) := by decide +kernel
theorem dL_law_2577 : decode cL_law 2577 = .ok (.iload 5, 2) := by decide +kernel
theorem dL_law_2579 : decode cL_law 2579 = .ok (.ifCond .ne 14, 3) := by decide +kernel
theorem dL_law_2582 : decode cL_law 2582 = .ok (.aload_n 3, 1) := by decide +kernel
theorem dL_law_2583 : decode cL_law 2583 = .ok (.iconst 0, 1) := by decide +kernel
theorem dL_law_2584 : decode cL_law 2584 = .ok (.laload, 1) := by decide +kernel
theorem dL_law_2585 : decode cL_law 2585 = .ok (.lload 6, 2) := by decide +kernel
theorem dL_law_2587 : decode cL_law 2587 = .ok (.lcmp, 1) := by decide +kernel
theorem dL_law_2588 : decode cL_law 2588 = .ok (.ifCond .eq 5, 3) := by decide +kernel
theorem dL_law_2591 : decode cL_law 2591 = .ok (.iconst 0, 1) := by decide +kernel
theorem dL_law_2592 : decode cL_law 2592 = .ok (.ireturn, 1) := by decide +kernel
theorem dL_law_2593 : decode cL_law 2593 = .ok (.goto 3, 3) := by decide +kernel
theorem dL_law_2596 : decode cL_law 2596 = .ok (.iinc 4 9, 3) := by decide +kernel
theorem dL_law_2599 : decode cL_law 2599 = .ok (.goto (-2576), 3) := by decide +kernel
theorem dL_law_2602 : decode cL_law 2602 = .ok (.iconst 1, 1) := by decide +kernel
theorem dL_law_2603 : decode cL_law 2603 = .ok (.ireturn, 1) := by decide +kernel
