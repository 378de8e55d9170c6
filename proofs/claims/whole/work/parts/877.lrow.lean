/-! The law: its rows 7 (written by wip/whole/genlaw.py) -/
section
theorem d417_2126 : decode code 2126 = .ok (.if_icmp .eq 5, 3) := by decide +kernel
theorem d417_2129 : decode code 2129 = .ok (.iconst 0, 1) := by decide +kernel
theorem d417_2130 : decode code 2130 = .ok (.ireturn, 1) := by decide +kernel
theorem d417_2131 : decode code 2131 = .ok (.iload 5, 2) := by decide +kernel
theorem d417_2133 : decode code 2133 = .ok (.ifCond .ne 22, 3) := by decide +kernel
theorem d417_2136 : decode code 2136 = .ok (.aload_n 3, 1) := by decide +kernel
theorem d417_2137 : decode code 2137 = .ok (.iconst 0, 1) := by decide +kernel
theorem d417_2138 : decode code 2138 = .ok (.laload, 1) := by decide +kernel
theorem d417_2139 : decode code 2139 = .ok (.iload 6, 2) := by decide +kernel
theorem d417_2141 : decode code 2141 = .ok (.ifCond .eq 7, 3) := by decide +kernel
theorem d417_2144 : decode code 2144 = .ok (.lconst 1, 1) := by decide +kernel
theorem d417_2145 : decode code 2145 = .ok (.goto 4, 3) := by decide +kernel
theorem d417_2148 : decode code 2148 = .ok (.lconst 0, 1) := by decide +kernel
theorem d417_2149 : decode code 2149 = .ok (.lcmp, 1) := by decide +kernel
theorem d417_2150 : decode code 2150 = .ok (.ifCond .eq 5, 3) := by decide +kernel
theorem d417_2153 : decode code 2153 = .ok (.iconst 0, 1) := by decide +kernel
theorem d417_2154 : decode code 2154 = .ok (.ireturn, 1) := by decide +kernel
theorem d417_2155 : decode code 2155 = .ok (.goto 628, 3) := by decide +kernel
theorem d417_2158 : decode code 2158 = .ok (.aload_n 1, 1) := by decide +kernel
theorem d417_2159 : decode code 2159 = .ok (.aload_n 0, 1) := by decide +kernel
theorem d417_2160 : decode code 2160 = .ok (.iload 4, 2) := by decide +kernel
theorem d417_2162 : decode code 2162 = .ok (.iconst 1, 1) := by decide +kernel
theorem d417_2163 : decode code 2163 = .ok (.iadd, 1) := by decide +kernel
theorem d417_2164 : decode code 2164 = .ok (.iaload, 1) := by decide +kernel
theorem d417_2165 : decode code 2165 = .ok (.aload_n 3, 1) := by decide +kernel
theorem d417_2166 : decode code 2166 = .ok (.invokestatic 259, 3) := by decide +kernel
theorem d417_2169 : decode code 2169 = .ok (.istore 5, 2) := by decide +kernel
theorem d417_2171 : decode code 2171 = .ok (.aload_n 2, 1) := by decide +kernel
theorem d417_2172 : decode code 2172 = .ok (.aload_n 0, 1) := by decide +kernel
theorem d417_2173 : decode code 2173 = .ok (.iload 4, 2) := by decide +kernel
theorem d417_2175 : decode code 2175 = .ok (.iconst 1, 1) := by decide +kernel
theorem d417_2176 : decode code 2176 = .ok (.iadd, 1) := by decide +kernel
theorem d417_2177 : decode code 2177 = .ok (.iaload, 1) := by decide +kernel
theorem d417_2178 : decode code 2178 = .ok (.invokevirtual 261, 3) := by decide +kernel
theorem d417_2181 : decode code 2181 = .ok (.istore 6, 2) := by decide +kernel
theorem d417_2183 : decode code 2183 = .ok (.aload_n 2, 1) := by decide +kernel
theorem d417_2184 : decode code 2184 = .ok (.invokevirtual 147, 3) := by decide +kernel
theorem d417_2187 : decode code 2187 = .ok (.iload 5, 2) := by decide +kernel
theorem d417_2189 : decode code 2189 = .ok (.if_icmp .eq 5, 3) := by decide +kernel
theorem d417_2192 : decode code 2192 = .ok (.iconst 0, 1) := by decide +kernel
theorem d417_2193 : decode code 2193 = .ok (.ireturn, 1) := by decide +kernel
theorem d417_2194 : decode code 2194 = .ok (.iload 5, 2) := by decide +kernel
theorem d417_2196 : decode code 2196 = .ok (.ifCond .ne 15, 3) := by decide +kernel
theorem d417_2199 : decode code 2199 = .ok (.aload_n 3, 1) := by decide +kernel
theorem d417_2200 : decode code 2200 = .ok (.iconst 0, 1) := by decide +kernel
theorem d417_2201 : decode code 2201 = .ok (.laload, 1) := by decide +kernel
theorem d417_2202 : decode code 2202 = .ok (.iload 6, 2) := by decide +kernel
theorem d417_2204 : decode code 2204 = .ok (.i2l, 1) := by decide +kernel
theorem d417_2205 : decode code 2205 = .ok (.lcmp, 1) := by decide +kernel
theorem d417_2206 : decode code 2206 = .ok (.ifCond .eq 5, 3) := by decide +kernel
theorem d417_2209 : decode code 2209 = .ok (.iconst 0, 1) := by decide +kernel
theorem d417_2210 : decode code 2210 = .ok (.ireturn, 1) := by decide +kernel
theorem d417_2211 : decode code 2211 = .ok (.goto 572, 3) := by decide +kernel
theorem d417_2214 : decode code 2214 = .ok (.aload_n 1, 1) := by decide +kernel
theorem d417_2215 : decode code 2215 = .ok (.aload_n 0, 1) := by decide +kernel
theorem d417_2216 : decode code 2216 = .ok (.iload 4, 2) := by decide +kernel
theorem d417_2218 : decode code 2218 = .ok (.iconst 1, 1) := by decide +kernel
theorem d417_2219 : decode code 2219 = .ok (.iadd, 1) := by decide +kernel
theorem d417_2220 : decode code 2220 = .ok (.iaload, 1) := by decide +kernel
theorem d417_2221 : decode code 2221 = .ok (.aload_n 3, 1) := by decide +kernel
theorem d417_2222 : decode code 2222 = .ok (.invokestatic 262, 3) := by decide +kernel
theorem d417_2225 : decode code 2225 = .ok (.istore 5, 2) := by decide +kernel
theorem d417_2227 : decode code 2227 = .ok (.aload_n 2, 1) := by decide +kernel
theorem d417_2228 : decode code 2228 = .ok (.aload_n 0, 1) := by decide +kernel
theorem d417_2229 : decode code 2229 = .ok (.iload 4, 2) := by decide +kernel
theorem d417_2231 : decode code 2231 = .ok (.iconst 1, 1) := by decide +kernel
theorem d417_2232 : decode code 2232 = .ok (.iadd, 1) := by decide +kernel
theorem d417_2233 : decode code 2233 = .ok (.iaload, 1) := by decide +kernel
theorem d417_2234 : decode code 2234 = .ok (.invokevirtual 264, 3) := by decide +kernel
theorem d417_2237 : decode code 2237 = .ok (.istore 6, 2) := by decide +kernel
theorem d417_2239 : decode code 2239 = .ok (.aload_n 2, 1) := by decide +kernel
theorem d417_2240 : decode code 2240 = .ok (.invokevirtual 147, 3) := by decide +kernel
theorem d417_2243 : decode code 2243 = .ok (.iload 5, 2) := by decide +kernel
theorem d417_2245 : decode code 2245 = .ok (.if_icmp .eq 5, 3) := by decide +kernel
theorem d417_2248 : decode code 2248 = .ok (.iconst 0, 1) := by decide +kernel
theorem d417_2249 : decode code 2249 = .ok (.ireturn, 1) := by decide +kernel
theorem d417_2250 : decode code 2250 = .ok (.iload 5, 2) := by decide +kernel
theorem d417_2252 : decode code 2252 = .ok (.ifCond .ne 15, 3) := by decide +kernel
theorem d417_2255 : decode code 2255 = .ok (.aload_n 3, 1) := by decide +kernel
theorem d417_2256 : decode code 2256 = .ok (.iconst 0, 1) := by decide +kernel
theorem d417_2257 : decode code 2257 = .ok (.laload, 1) := by decide +kernel
theorem d417_2258 : decode code 2258 = .ok (.iload 6, 2) := by decide +kernel
theorem d417_2260 : decode code 2260 = .ok (.i2l, 1) := by decide +kernel
theorem d417_2261 : decode code 2261 = .ok (.lcmp, 1) := by decide +kernel
theorem d417_2262 : decode code 2262 = .ok (.ifCond .eq 5, 3) := by decide +kernel
theorem d417_2265 : decode code 2265 = .ok (.iconst 0, 1) := by decide +kernel
theorem d417_2266 : decode code 2266 = .ok (.ireturn, 1) := by decide +kernel
theorem d417_2267 : decode code 2267 = .ok (.goto 516, 3) := by decide +kernel
theorem d417_2270 : decode code 2270 = .ok (.aload_n 1, 1) := by decide +kernel
theorem d417_2271 : decode code 2271 = .ok (.aload_n 0, 1) := by decide +kernel
theorem d417_2272 : decode code 2272 = .ok (.iload 4, 2) := by decide +kernel
theorem d417_2274 : decode code 2274 = .ok (.iconst 1, 1) := by decide +kernel
theorem d417_2275 : decode code 2275 = .ok (.iadd, 1) := by decide +kernel
theorem d417_2276 : decode code 2276 = .ok (.iaload, 1) := by decide +kernel
theorem d417_2277 : decode code 2277 = .ok (.aload_n 3, 1) := by decide +kernel
theorem d417_2278 : decode code 2278 = .ok (.invokestatic 265, 3) := by decide +kernel
theorem d417_2281 : decode code 2281 = .ok (.istore 5, 2) := by decide +kernel
theorem d417_2283 : decode code 2283 = .ok (.aload_n 2, 1) := by decide +kernel
theorem d417_2284 : decode code 2284 = .ok (.aload_n 0, 1) := by decide +kernel
theorem d417_2285 : decode code 2285 = .ok (.iload 4, 2) := by decide +kernel
theorem d417_2287 : decode code 2287 = .ok (.iconst 1, 1) := by decide +kernel
theorem d417_2288 : decode code 2288 = .ok (.iadd, 1) := by decide +kernel
theorem d417_2289 : decode code 2289 = .ok (.iaload, 1) := by decide +kernel
theorem d417_2290 : decode code 2290 = .ok (.invokevirtual 267, 3) := by decide +kernel
theorem d417_2293 : decode code 2293 = .ok (.istore 6, 2) := by decide +kernel
theorem d417_2295 : decode code 2295 = .ok (.aload_n 2, 1) := by decide +kernel
theorem d417_2296 : decode code 2296 = .ok (.invokevirtual 147, 3) := by decide +kernel
theorem d417_2299 : decode code 2299 = .ok (.iload 5, 2) := by decide +kernel
theorem d417_2301 : decode code 2301 = .ok (.if_icmp .eq 5, 3) := by decide +kernel
theorem d417_2304 : decode code 2304 = .ok (.iconst 0, 1) := by decide +kernel
theorem d417_2305 : decode code 2305 = .ok (.ireturn, 1) := by decide +kernel
theorem d417_2306 : decode code 2306 = .ok (.iload 5, 2) := by decide +kernel
theorem d417_2308 : decode code 2308 = .ok (.ifCond .ne 15, 3) := by decide +kernel
theorem d417_2311 : decode code 2311 = .ok (.aload_n 3, 1) := by decide +kernel
theorem d417_2312 : decode code 2312 = .ok (.iconst 0, 1) := by decide +kernel
theorem d417_2313 : decode code 2313 = .ok (.laload, 1) := by decide +kernel
theorem d417_2314 : decode code 2314 = .ok (.iload 6, 2) := by decide +kernel
theorem d417_2316 : decode code 2316 = .ok (.i2l, 1) := by decide +kernel
theorem d417_2317 : decode code 2317 = .ok (.lcmp, 1) := by decide +kernel
theorem d417_2318 : decode code 2318 = .ok (.ifCond .eq 5, 3) := by decide +kernel
theorem d417_2321 : decode code 2321 = .ok (.iconst 0, 1) := by decide +kernel
theorem d417_2322 : decode code 2322 = .ok (.ireturn, 1) := by decide +kernel
theorem d417_2323 : decode code 2323 = .ok (.goto 460, 3) := by decide +kernel
theorem d417_2326 : decode code 2326 = .ok (.aload_n 1, 1) := by decide +kernel
theorem d417_2327 : decode code 2327 = .ok (.invokevirtual 268, 3) := by decide +kernel
theorem d417_2330 : decode code 2330 = .ok (.aload_n 2, 1) := by decide +kernel
theorem d417_2331 : decode code 2331 = .ok (.invokevirtual 271, 3) := by decide +kernel
theorem d417_2334 : decode code 2334 = .ok (.if_icmp .eq 449, 3) := by decide +kernel
theorem d417_2337 : decode code 2337 = .ok (.iconst 0, 1) := by decide +kernel
theorem d417_2338 : decode code 2338 = .ok (.ireturn, 1) := by decide +kernel
theorem d417_2339 : decode code 2339 = .ok (.aload_n 1, 1) := by decide +kernel
theorem d417_2340 : decode code 2340 = .ok (.invokevirtual 272, 3) := by decide +kernel
theorem d417_2343 : decode code 2343 = .ok (.aload_n 2, 1) := by decide +kernel
theorem d417_2344 : decode code 2344 = .ok (.invokevirtual 275, 3) := by decide +kernel
theorem d417_2347 : decode code 2347 = .ok (.if_icmp .eq 436, 3) := by decide +kernel
theorem d417_2350 : decode code 2350 = .ok (.iconst 0, 1) := by decide +kernel
theorem d417_2351 : decode code 2351 = .ok (.ireturn, 1) := by decide +kernel
theorem d417_2352 : decode code 2352 = .ok (.aload_n 1, 1) := by decide +kernel
theorem d417_2353 : decode code 2353 = .ok (.invokevirtual 276, 3) := by decide +kernel
theorem d417_2356 : decode code 2356 = .ok (.aload_n 2, 1) := by decide +kernel
theorem d417_2357 : decode code 2357 = .ok (.invokevirtual 279, 3) := by decide +kernel
theorem d417_2360 : decode code 2360 = .ok (.if_icmp .eq 423, 3) := by decide +kernel
theorem d417_2363 : decode code 2363 = .ok (.iconst 0, 1) := by decide +kernel
theorem d417_2364 : decode code 2364 = .ok (.ireturn, 1) := by decide +kernel
theorem d417_2365 : decode code 2365 = .ok (.aload_n 1, 1) := by decide +kernel
theorem d417_2366 : decode code 2366 = .ok (.invokevirtual 280, 3) := by decide +kernel
theorem d417_2369 : decode code 2369 = .ok (.aload_n 2, 1) := by decide +kernel
theorem d417_2370 : decode code 2370 = .ok (.invokevirtual 283, 3) := by decide +kernel
theorem d417_2373 : decode code 2373 = .ok (.if_icmp .eq 410, 3) := by decide +kernel
theorem d417_2376 : decode code 2376 = .ok (.iconst 0, 1) := by decide +kernel
theorem d417_2377 : decode code 2377 = .ok (.ireturn, 1) := by decide +kernel
theorem d417_2378 : decode code 2378 = .ok (.aload_n 1, 1) := by decide +kernel
theorem d417_2379 : decode code 2379 = .ok (.invokevirtual 284, 3) := by decide +kernel
theorem d417_2382 : decode code 2382 = .ok (.aload_n 2, 1) := by decide +kernel
theorem d417_2383 : decode code 2383 = .ok (.invokevirtual 287, 3) := by decide +kernel
theorem d417_2386 : decode code 2386 = .ok (.if_icmp .eq 397, 3) := by decide +kernel
theorem d417_2389 : decode code 2389 = .ok (.iconst 0, 1) := by decide +kernel
theorem d417_2390 : decode code 2390 = .ok (.ireturn, 1) := by decide +kernel
theorem d417_2391 : decode code 2391 = .ok (.aload_n 1, 1) := by decide +kernel
theorem d417_2392 : decode code 2392 = .ok (.aload_n 0, 1) := by decide +kernel
theorem d417_2393 : decode code 2393 = .ok (.iload 4, 2) := by decide +kernel
theorem d417_2395 : decode code 2395 = .ok (.iconst 1, 1) := by decide +kernel
theorem d417_2396 : decode code 2396 = .ok (.iadd, 1) := by decide +kernel
theorem d417_2397 : decode code 2397 = .ok (.iaload, 1) := by decide +kernel
theorem d417_2398 : decode code 2398 = .ok (.aload_n 3, 1) := by decide +kernel
theorem d417_2399 : decode code 2399 = .ok (.invokestatic 288, 3) := by decide +kernel
theorem d417_2402 : decode code 2402 = .ok (.istore 5, 2) := by decide +kernel
theorem d417_2404 : decode code 2404 = .ok (.aload_n 2, 1) := by decide +kernel
theorem d417_2405 : decode code 2405 = .ok (.aload_n 0, 1) := by decide +kernel
theorem d417_2406 : decode code 2406 = .ok (.iload 4, 2) := by decide +kernel
end
