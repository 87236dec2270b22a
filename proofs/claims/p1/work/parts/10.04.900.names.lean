theorem dL_law_2147 : decode cL_law 2147 = .ok (.aload_n 1, 1) := by decide +kernel
theorem dL_law_2148 : decode cL_law 2148 = .ok (.aload_n 0, 1) := by decide +kernel
theorem dL_law_2149 : decode cL_law 2149 = .ok (.iload 5, 2) := by decide +kernel
theorem dL_law_2151 : decode cL_law 2151 = .ok (.iconst 1, 1) := by decide +kernel
theorem dL_law_2152 : decode cL_law 2152 = .ok (.iadd, 1) := by decide +kernel
theorem dL_law_2153 : decode cL_law 2153 = .ok (.iaload, 1) := by decide +kernel
theorem dL_law_2154 : decode cL_law 2154 = .ok (.aload_n 3, 1) := by decide +kernel
theorem dL_law_2155 : decode cL_law 2155 = .ok (.invokestatic 252, 3) := by decide +kernel
theorem dL_law_2158 : decode cL_law 2158 = .ok (.istore 6, 2) := by decide +kernel
theorem dL_law_2160 : decode cL_law 2160 = .ok (.aload_n 2, 1) := by decide +kernel
theorem dL_law_2161 : decode cL_law 2161 = .ok (.aload_n 0, 1) := by decide +kernel
theorem dL_law_2162 : decode cL_law 2162 = .ok (.iload 5, 2) := by decide +kernel
theorem dL_law_2164 : decode cL_law 2164 = .ok (.iconst 1, 1) := by decide +kernel
theorem dL_law_2165 : decode cL_law 2165 = .ok (.iadd, 1) := by decide +kernel
theorem dL_law_2166 : decode cL_law 2166 = .ok (.iaload, 1) := by decide +kernel
theorem dL_law_2167 : decode cL_law 2167 = .ok (.invokevirtual 254, 3) := by decide +kernel
theorem dL_law_2170 : decode cL_law 2170 = .ok (.istore 7, 2) := by decide +kernel
theorem dL_law_2172 : decode cL_law 2172 = .ok (.aload_n 2, 1) := by decide +kernel
theorem dL_law_2173 : decode cL_law 2173 = .ok (.invokevirtual 146, 3) := by decide +kernel
theorem dL_law_2176 : decode cL_law 2176 = .ok (.iload 6, 2) := by decide +kernel
theorem dL_law_2178 : decode cL_law 2178 = .ok (.if_icmp .eq 5, 3) := by decide +kernel
theorem dL_law_2183 : decode cL_law 2183 = .ok (.iload 6, 2) := by decide +kernel
theorem dL_law_2185 : decode cL_law 2185 = .ok (.ifCond .ne 15, 3) := by decide +kernel
theorem dL_law_2188 : decode cL_law 2188 = .ok (.aload_n 3, 1) := by decide +kernel
theorem dL_law_2189 : decode cL_law 2189 = .ok (.iconst 0, 1) := by decide +kernel
theorem dL_law_2190 : decode cL_law 2190 = .ok (.laload, 1) := by decide +kernel
theorem dL_law_2191 : decode cL_law 2191 = .ok (.iload 7, 2) := by decide +kernel
theorem dL_law_2193 : decode cL_law 2193 = .ok (.i2l, 1) := by decide +kernel
theorem dL_law_2194 : decode cL_law 2194 = .ok (.lcmp, 1) := by decide +kernel
theorem dL_law_2195 : decode cL_law 2195 = .ok (.ifCond .eq 5, 3) := by decide +kernel
theorem dL_law_2200 : decode cL_law 2200 = .ok (.goto 436, 3) := by decide +kernel
theorem dL_law_2203 : decode cL_law 2203 = .ok (.aload_n 1, 1) := by decide +kernel
theorem dL_law_2204 : decode cL_law 2204 = .ok (.invokevirtual 255, 3) := by decide +kernel
theorem dL_law_2207 : decode cL_law 2207 = .ok (.aload_n 2, 1) := by decide +kernel
theorem dL_law_2208 : decode cL_law 2208 = .ok (.invokevirtual 258, 3) := by decide +kernel
theorem dL_law_2211 : decode cL_law 2211 = .ok (.if_icmp .eq 425, 3) := by decide +kernel
theorem dL_law_2216 : decode cL_law 2216 = .ok (.aload_n 1, 1) := by decide +kernel
theorem dL_law_2217 : decode cL_law 2217 = .ok (.aload_n 0, 1) := by decide +kernel
theorem dL_law_2218 : decode cL_law 2218 = .ok (.iload 5, 2) := by decide +kernel
theorem dL_law_2220 : decode cL_law 2220 = .ok (.iconst 1, 1) := by decide +kernel
theorem dL_law_2221 : decode cL_law 2221 = .ok (.iadd, 1) := by decide +kernel
theorem dL_law_2222 : decode cL_law 2222 = .ok (.iaload, 1) := by decide +kernel
theorem dL_law_2223 : decode cL_law 2223 = .ok (.aload_n 3, 1) := by decide +kernel
theorem dL_law_2224 : decode cL_law 2224 = .ok (.invokestatic 259, 3) := by decide +kernel
theorem dL_law_2227 : decode cL_law 2227 = .ok (.istore 6, 2) := by decide +kernel
theorem dL_law_2229 : decode cL_law 2229 = .ok (.aload_n 2, 1) := by decide +kernel
theorem dL_law_2230 : decode cL_law 2230 = .ok (.aload_n 0, 1) := by decide +kernel
theorem dL_law_2231 : decode cL_law 2231 = .ok (.iload 5, 2) := by decide +kernel
theorem dL_law_2233 : decode cL_law 2233 = .ok (.iconst 1, 1) := by decide +kernel
theorem dL_law_2234 : decode cL_law 2234 = .ok (.iadd, 1) := by decide +kernel
theorem dL_law_2235 : decode cL_law 2235 = .ok (.iaload, 1) := by decide +kernel
theorem dL_law_2236 : decode cL_law 2236 = .ok (.invokevirtual 261, 3) := by decide +kernel
theorem dL_law_2239 : decode cL_law 2239 = .ok (.istore 7, 2) := by decide +kernel
theorem dL_law_2241 : decode cL_law 2241 = .ok (.aload_n 2, 1) := by decide +kernel
theorem dL_law_2242 : decode cL_law 2242 = .ok (.invokevirtual 146, 3) := by decide +kernel
theorem dL_law_2245 : decode cL_law 2245 = .ok (.iload 6, 2) := by decide +kernel
theorem dL_law_2247 : decode cL_law 2247 = .ok (.if_icmp .eq 5, 3) := by decide +kernel
theorem dL_law_2252 : decode cL_law 2252 = .ok (.iload 6, 2) := by decide +kernel
theorem dL_law_2254 : decode cL_law 2254 = .ok (.ifCond .ne 15, 3) := by decide +kernel
theorem dL_law_2257 : decode cL_law 2257 = .ok (.aload_n 3, 1) := by decide +kernel
theorem dL_law_2258 : decode cL_law 2258 = .ok (.iconst 0, 1) := by decide +kernel
theorem dL_law_2259 : decode cL_law 2259 = .ok (.laload, 1) := by decide +kernel
theorem dL_law_2260 : decode cL_law 2260 = .ok (.iload 7, 2) := by decide +kernel
theorem dL_law_2262 : decode cL_law 2262 = .ok (.i2l, 1) := by decide +kernel
theorem dL_law_2263 : decode cL_law 2263 = .ok (.lcmp, 1) := by decide +kernel
theorem dL_law_2264 : decode cL_law 2264 = .ok (.ifCond .eq 5, 3) := by decide +kernel
theorem dL_law_2269 : decode cL_law 2269 = .ok (.goto 367, 3) := by decide +kernel
theorem dL_law_2272 : decode cL_law 2272 = .ok (.aload_n 1, 1) := by decide +kernel
theorem dL_law_2273 : decode cL_law 2273 = .ok (.aload_n 3, 1) := by decide +kernel
theorem dL_law_2274 : decode cL_law 2274 = .ok (.invokestatic 262, 3) := by decide +kernel
theorem dL_law_2277 : decode cL_law 2277 = .ok (.istore 6, 2) := by decide +kernel
theorem dL_law_2279 : decode cL_law 2279 = .ok (.aload_n 2, 1) := by decide +kernel
theorem dL_law_2280 : decode cL_law 2280 = .ok (.invokevirtual 264, 3) := by decide +kernel
theorem dL_law_2283 : decode cL_law 2283 = .ok (.istore 7, 2) := by decide +kernel
theorem dL_law_2285 : decode cL_law 2285 = .ok (.aload_n 2, 1) := by decide +kernel
theorem dL_law_2286 : decode cL_law 2286 = .ok (.invokevirtual 146, 3) := by decide +kernel
theorem dL_law_2289 : decode cL_law 2289 = .ok (.iload 6, 2) := by decide +kernel
theorem dL_law_2291 : decode cL_law 2291 = .ok (.if_icmp .eq 5, 3) := by decide +kernel
theorem dL_law_2296 : decode cL_law 2296 = .ok (.iload 6, 2) := by decide +kernel
theorem dL_law_2298 : decode cL_law 2298 = .ok (.ifCond .ne 15, 3) := by decide +kernel
theorem dL_law_2313 : decode cL_law 2313 = .ok (.goto 323, 3) := by decide +kernel
theorem dL_law_2316 : decode cL_law 2316 = .ok (.aload_n 1, 1) := by decide +kernel
theorem dL_law_2317 : decode cL_law 2317 = .ok (.aload_n 0, 1) := by decide +kernel
theorem dL_law_2318 : decode cL_law 2318 = .ok (.iload 5, 2) := by decide +kernel
theorem dL_law_2320 : decode cL_law 2320 = .ok (.iconst 1, 1) := by decide +kernel
theorem dL_law_2321 : decode cL_law 2321 = .ok (.iadd, 1) := by decide +kernel
theorem dL_law_2322 : decode cL_law 2322 = .ok (.iaload, 1) := by decide +kernel
theorem dL_law_2323 : decode cL_law 2323 = .ok (.aload_n 0, 1) := by decide +kernel
theorem dL_law_2324 : decode cL_law 2324 = .ok (.iload 5, 2) := by decide +kernel
theorem dL_law_2326 : decode cL_law 2326 = .ok (.iconst 2, 1) := by decide +kernel
theorem dL_law_2327 : decode cL_law 2327 = .ok (.iadd, 1) := by decide +kernel
theorem dL_law_2328 : decode cL_law 2328 = .ok (.iaload, 1) := by decide +kernel
theorem dL_law_2329 : decode cL_law 2329 = .ok (.aload_n 0, 1) := by decide +kernel
theorem dL_law_2330 : decode cL_law 2330 = .ok (.iload 5, 2) := by decide +kernel
theorem dL_law_2332 : decode cL_law 2332 = .ok (.iconst 3, 1) := by decide +kernel
theorem dL_law_2333 : decode cL_law 2333 = .ok (.iadd, 1) := by decide +kernel
theorem dL_law_2334 : decode cL_law 2334 = .ok (.iaload, 1) := by decide +kernel
theorem dL_law_2335 : decode cL_law 2335 = .ok (.aload_n 3, 1) := by decide +kernel
theorem dL_law_2336 : decode cL_law 2336 = .ok (.invokestatic 265, 3) := by decide +kernel
theorem dL_law_2339 : decode cL_law 2339 = .ok (.istore 6, 2) := by decide +kernel
theorem dL_law_2341 : decode cL_law 2341 = .ok (.aload_n 2, 1) := by decide +kernel
theorem dL_law_2342 : decode cL_law 2342 = .ok (.aload_n 0, 1) := by decide +kernel
theorem dL_law_2343 : decode cL_law 2343 = .ok (.iload 5, 2) := by decide +kernel
theorem dL_law_2345 : decode cL_law 2345 = .ok (.iconst 1, 1) := by decide +kernel
theorem dL_law_2346 : decode cL_law 2346 = .ok (.iadd, 1) := by decide +kernel
theorem dL_law_2347 : decode cL_law 2347 = .ok (.iaload, 1) := by decide +kernel
theorem dL_law_2348 : decode cL_law 2348 = .ok (.aload_n 0, 1) := by decide +kernel
theorem dL_law_2349 : decode cL_law 2349 = .ok (.iload 5, 2) := by decide +kernel
theorem dL_law_2351 : decode cL_law 2351 = .ok (.iconst 2, 1) := by decide +kernel
theorem dL_law_2352 : decode cL_law 2352 = .ok (.iadd, 1) := by decide +kernel
theorem dL_law_2353 : decode cL_law 2353 = .ok (.iaload, 1) := by decide +kernel
theorem dL_law_2354 : decode cL_law 2354 = .ok (.aload_n 0, 1) := by decide +kernel
theorem dL_law_2355 : decode cL_law 2355 = .ok (.iload 5, 2) := by decide +kernel
theorem dL_law_2357 : decode cL_law 2357 = .ok (.iconst 3, 1) := by decide +kernel
theorem dL_law_2358 : decode cL_law 2358 = .ok (.iadd, 1) := by decide +kernel
theorem dL_law_2359 : decode cL_law 2359 = .ok (.iaload, 1) := by decide +kernel
theorem dL_law_2360 : decode cL_law 2360 = .ok (.invokevirtual 267, 3) := by decide +kernel
theorem dL_law_2363 : decode cL_law 2363 = .ok (.istore 7, 2) := by decide +kernel
theorem dL_law_2365 : decode cL_law 2365 = .ok (.aload_n 2, 1) := by decide +kernel
theorem dL_law_2366 : decode cL_law 2366 = .ok (.invokevirtual 146, 3) := by decide +kernel
theorem dL_law_2369 : decode cL_law 2369 = .ok (.iload 6, 2) := by decide +kernel
theorem dL_law_2371 : decode cL_law 2371 = .ok (.if_icmp .eq 5, 3) := by decide +kernel
theorem dL_law_2376 : decode cL_law 2376 = .ok (.iload 6, 2) := by decide +kernel
theorem dL_law_2378 : decode cL_law 2378 = .ok (.ifCond .ne 15, 3) := by decide +kernel
theorem dL_law_2381 : decode cL_law 2381 = .ok (.aload_n 3, 1) := by decide +kernel
theorem dL_law_2382 : decode cL_law 2382 = .ok (.iconst 0, 1) := by decide +kernel
theorem dL_law_2383 : decode cL_law 2383 = .ok (.laload, 1) := by decide +kernel
theorem dL_law_2384 : decode cL_law 2384 = .ok (.iload 7, 2) := by decide +kernel
theorem dL_law_2386 : decode cL_law 2386 = .ok (.i2l, 1) := by decide +kernel
theorem dL_law_2387 : decode cL_law 2387 = .ok (.lcmp, 1) := by decide +kernel
theorem dL_law_2388 : decode cL_law 2388 = .ok (.ifCond .eq 5, 3) := by decide +kernel
theorem dL_law_2393 : decode cL_law 2393 = .ok (.goto 243, 3) := by decide +kernel
theorem dL_law_2396 : decode cL_law 2396 = .ok (.aload_n 1, 1) := by decide +kernel
theorem dL_law_2397 : decode cL_law 2397 = .ok (.aload_n 0, 1) := by decide +kernel
theorem dL_law_2398 : decode cL_law 2398 = .ok (.iload 5, 2) := by decide +kernel
theorem dL_law_2400 : decode cL_law 2400 = .ok (.iconst 1, 1) := by decide +kernel
theorem dL_law_2401 : decode cL_law 2401 = .ok (.iadd, 1) := by decide +kernel
theorem dL_law_2402 : decode cL_law 2402 = .ok (.iaload, 1) := by decide +kernel
theorem dL_law_2403 : decode cL_law 2403 = .ok (.aload_n 3, 1) := by decide +kernel
theorem dL_law_2404 : decode cL_law 2404 = .ok (.invokestatic 268, 3) := by decide +kernel
theorem dL_law_2407 : decode cL_law 2407 = .ok (.istore 6, 2) := by decide +kernel
theorem dL_law_2409 : decode cL_law 2409 = .ok (.aload_n 2, 1) := by decide +kernel
theorem dL_law_2410 : decode cL_law 2410 = .ok (.aload_n 0, 1) := by decide +kernel
theorem dL_law_2411 : decode cL_law 2411 = .ok (.iload 5, 2) := by decide +kernel
theorem dL_law_2413 : decode cL_law 2413 = .ok (.iconst 1, 1) := by decide +kernel
theorem dL_law_2414 : decode cL_law 2414 = .ok (.iadd, 1) := by decide +kernel
theorem dL_law_2415 : decode cL_law 2415 = .ok (.iaload, 1) := by decide +kernel
theorem dL_law_2416 : decode cL_law 2416 = .ok (.invokevirtual 270, 3) := by decide +kernel
theorem dL_law_2419 : decode cL_law 2419 = .ok (.istore 7, 2) := by decide +kernel
