/-! Rows that decode the law. -/
theorem dL_law_2231 : decode cL_law 2231 = .ok (.iload 5, 2) := by decide +kernel
theorem dL_law_2233 : decode cL_law 2233 = .ok (.iconst 1, 1) := by decide +kernel
theorem dL_law_2234 : decode cL_law 2234 = .ok (.iadd, 1) := by decide +kernel
theorem dL_law_2235 : decode cL_law 2235 = .ok (.iaload, 1) := by decide +kernel
theorem dL_law_2236 : decode cL_law 2236 = .ok (.invokevirtual 250, 3) := by decide +kernel
theorem dL_law_2239 : decode cL_law 2239 = .ok (.istore 7, 2) := by decide +kernel
theorem dL_law_2241 : decode cL_law 2241 = .ok (.aload_n 2, 1) := by decide +kernel
theorem dL_law_2242 : decode cL_law 2242 = .ok (.invokevirtual 155, 3) := by decide +kernel
theorem dL_law_2245 : decode cL_law 2245 = .ok (.iload 6, 2) := by decide +kernel
theorem dL_law_2247 : decode cL_law 2247 = .ok (.if_icmp .eq 5, 3) := by decide +kernel
theorem dL_law_2250 : decode cL_law 2250 = .ok (.iconst 0, 1) := by decide +kernel
theorem dL_law_2251 : decode cL_law 2251 = .ok (.ireturn, 1) := by decide +kernel
theorem dL_law_2252 : decode cL_law 2252 = .ok (.iload 6, 2) := by decide +kernel
theorem dL_law_2254 : decode cL_law 2254 = .ok (.ifCond .ne 15, 3) := by decide +kernel
theorem dL_law_2257 : decode cL_law 2257 = .ok (.aload_n 3, 1) := by decide +kernel
theorem dL_law_2258 : decode cL_law 2258 = .ok (.iconst 0, 1) := by decide +kernel
theorem dL_law_2259 : decode cL_law 2259 = .ok (.laload, 1) := by decide +kernel
theorem dL_law_2260 : decode cL_law 2260 = .ok (.iload 7, 2) := by decide +kernel
theorem dL_law_2262 : decode cL_law 2262 = .ok (.i2l, 1) := by decide +kernel
theorem dL_law_2263 : decode cL_law 2263 = .ok (.lcmp, 1) := by decide +kernel
theorem dL_law_2264 : decode cL_law 2264 = .ok (.ifCond .eq 5, 3) := by decide +kernel
theorem dL_law_2267 : decode cL_law 2267 = .ok (.iconst 0, 1) := by decide +kernel
theorem dL_law_2268 : decode cL_law 2268 = .ok (.ireturn, 1) := by decide +kernel
theorem dL_law_2269 : decode cL_law 2269 = .ok (.goto 383, 3) := by decide +kernel
theorem dL_law_2272 : decode cL_law 2272 = .ok (.aload_n 1, 1) := by decide +kernel
theorem dL_law_2273 : decode cL_law 2273 = .ok (.aload_n 0, 1) := by decide +kernel
theorem dL_law_2274 : decode cL_law 2274 = .ok (.iload 5, 2) := by decide +kernel
theorem dL_law_2276 : decode cL_law 2276 = .ok (.iconst 1, 1) := by decide +kernel
theorem dL_law_2277 : decode cL_law 2277 = .ok (.iadd, 1) := by decide +kernel
theorem dL_law_2278 : decode cL_law 2278 = .ok (.iaload, 1) := by decide +kernel
theorem dL_law_2279 : decode cL_law 2279 = .ok (.aload_n 3, 1) := by decide +kernel
theorem dL_law_2280 : decode cL_law 2280 = .ok (.invokestatic 251, 3) := by decide +kernel
theorem dL_law_2283 : decode cL_law 2283 = .ok (.istore 6, 2) := by decide +kernel
theorem dL_law_2285 : decode cL_law 2285 = .ok (.aload_n 2, 1) := by decide +kernel
theorem dL_law_2286 : decode cL_law 2286 = .ok (.aload_n 0, 1) := by decide +kernel
theorem dL_law_2287 : decode cL_law 2287 = .ok (.iload 5, 2) := by decide +kernel
theorem dL_law_2289 : decode cL_law 2289 = .ok (.iconst 1, 1) := by decide +kernel
theorem dL_law_2290 : decode cL_law 2290 = .ok (.iadd, 1) := by decide +kernel
theorem dL_law_2291 : decode cL_law 2291 = .ok (.iaload, 1) := by decide +kernel
theorem dL_law_2292 : decode cL_law 2292 = .ok (.invokevirtual 253, 3) := by decide +kernel
theorem dL_law_2295 : decode cL_law 2295 = .ok (.istore 7, 2) := by decide +kernel
theorem dL_law_2297 : decode cL_law 2297 = .ok (.aload_n 2, 1) := by decide +kernel
theorem dL_law_2298 : decode cL_law 2298 = .ok (.invokevirtual 155, 3) := by decide +kernel
theorem dL_law_2301 : decode cL_law 2301 = .ok (.iload 6, 2) := by decide +kernel
theorem dL_law_2303 : decode cL_law 2303 = .ok (.if_icmp .eq 5, 3) := by decide +kernel
theorem dL_law_2306 : decode cL_law 2306 = .ok (.iconst 0, 1) := by decide +kernel
theorem dL_law_2307 : decode cL_law 2307 = .ok (.ireturn, 1) := by decide +kernel
theorem dL_law_2308 : decode cL_law 2308 = .ok (.iload 6, 2) := by decide +kernel
theorem dL_law_2310 : decode cL_law 2310 = .ok (.ifCond .ne 15, 3) := by decide +kernel
theorem dL_law_2313 : decode cL_law 2313 = .ok (.aload_n 3, 1) := by decide +kernel
theorem dL_law_2314 : decode cL_law 2314 = .ok (.iconst 0, 1) := by decide +kernel
theorem dL_law_2315 : decode cL_law 2315 = .ok (.laload, 1) := by decide +kernel
theorem dL_law_2316 : decode cL_law 2316 = .ok (.iload 7, 2) := by decide +kernel
theorem dL_law_2318 : decode cL_law 2318 = .ok (.i2l, 1) := by decide +kernel
theorem dL_law_2319 : decode cL_law 2319 = .ok (.lcmp, 1) := by decide +kernel
theorem dL_law_2320 : decode cL_law 2320 = .ok (.ifCond .eq 5, 3) := by decide +kernel
theorem dL_law_2323 : decode cL_law 2323 = .ok (.iconst 0, 1) := by decide +kernel
theorem dL_law_2324 : decode cL_law 2324 = .ok (.ireturn, 1) := by decide +kernel
theorem dL_law_2325 : decode cL_law 2325 = .ok (.goto 327, 3) := by decide +kernel
theorem dL_law_2328 : decode cL_law 2328 = .ok (.aload_n 1, 1) := by decide +kernel
theorem dL_law_2329 : decode cL_law 2329 = .ok (.aload_n 0, 1) := by decide +kernel
theorem dL_law_2330 : decode cL_law 2330 = .ok (.iload 5, 2) := by decide +kernel
theorem dL_law_2332 : decode cL_law 2332 = .ok (.iconst 1, 1) := by decide +kernel
theorem dL_law_2333 : decode cL_law 2333 = .ok (.iadd, 1) := by decide +kernel
theorem dL_law_2334 : decode cL_law 2334 = .ok (.iaload, 1) := by decide +kernel
theorem dL_law_2335 : decode cL_law 2335 = .ok (.aload 4, 2) := by decide +kernel
theorem dL_law_2337 : decode cL_law 2337 = .ok (.invokestatic 254, 3) := by decide +kernel
theorem dL_law_2340 : decode cL_law 2340 = .ok (.istore 6, 2) := by decide +kernel
theorem dL_law_2342 : decode cL_law 2342 = .ok (.aload_n 2, 1) := by decide +kernel
theorem dL_law_2343 : decode cL_law 2343 = .ok (.aload_n 0, 1) := by decide +kernel
theorem dL_law_2344 : decode cL_law 2344 = .ok (.iload 5, 2) := by decide +kernel
theorem dL_law_2346 : decode cL_law 2346 = .ok (.iconst 1, 1) := by decide +kernel
theorem dL_law_2347 : decode cL_law 2347 = .ok (.iadd, 1) := by decide +kernel
theorem dL_law_2348 : decode cL_law 2348 = .ok (.iaload, 1) := by decide +kernel
theorem dL_law_2349 : decode cL_law 2349 = .ok (.invokevirtual 257, 3) := by decide +kernel
theorem dL_law_2352 : decode cL_law 2352 = .ok (.dstore 7, 2) := by decide +kernel
theorem dL_law_2354 : decode cL_law 2354 = .ok (.aload_n 2, 1) := by decide +kernel
theorem dL_law_2355 : decode cL_law 2355 = .ok (.invokevirtual 155, 3) := by decide +kernel
theorem dL_law_2358 : decode cL_law 2358 = .ok (.iload 6, 2) := by decide +kernel
theorem dL_law_2360 : decode cL_law 2360 = .ok (.if_icmp .eq 5, 3) := by decide +kernel
theorem dL_law_2363 : decode cL_law 2363 = .ok (.iconst 0, 1) := by decide +kernel
theorem dL_law_2364 : decode cL_law 2364 = .ok (.ireturn, 1) := by decide +kernel
theorem dL_law_2365 : decode cL_law 2365 = .ok (.iload 6, 2) := by decide +kernel
theorem dL_law_2367 : decode cL_law 2367 = .ok (.ifCond .ne 35, 3) := by decide +kernel
theorem dL_law_2370 : decode cL_law 2370 = .ok (.aload 4, 2) := by decide +kernel
theorem dL_law_2372 : decode cL_law 2372 = .ok (.iconst 0, 1) := by decide +kernel
theorem dL_law_2373 : decode cL_law 2373 = .ok (.daload, 1) := by decide +kernel
theorem dL_law_2374 : decode cL_law 2374 = .ok (.dload 7, 2) := by decide +kernel
theorem dL_law_2376 : decode cL_law 2376 = .ok (.dcmp .l, 1) := by decide +kernel
theorem dL_law_2377 : decode cL_law 2377 = .ok (.ifCond .eq 25, 3) := by decide +kernel
theorem dL_law_2380 : decode cL_law 2380 = .ok (.aload 4, 2) := by decide +kernel
theorem dL_law_2382 : decode cL_law 2382 = .ok (.iconst 0, 1) := by decide +kernel
theorem dL_law_2383 : decode cL_law 2383 = .ok (.daload, 1) := by decide +kernel
theorem dL_law_2384 : decode cL_law 2384 = .ok (.aload 4, 2) := by decide +kernel
theorem dL_law_2386 : decode cL_law 2386 = .ok (.iconst 0, 1) := by decide +kernel
theorem dL_law_2387 : decode cL_law 2387 = .ok (.daload, 1) := by decide +kernel
theorem dL_law_2388 : decode cL_law 2388 = .ok (.dcmp .l, 1) := by decide +kernel
theorem dL_law_2389 : decode cL_law 2389 = .ok (.ifCond .eq 11, 3) := by decide +kernel
theorem dL_law_2392 : decode cL_law 2392 = .ok (.dload 7, 2) := by decide +kernel
theorem dL_law_2394 : decode cL_law 2394 = .ok (.dload 7, 2) := by decide +kernel
theorem dL_law_2396 : decode cL_law 2396 = .ok (.dcmp .l, 1) := by decide +kernel
theorem dL_law_2397 : decode cL_law 2397 = .ok (.ifCond .ne 5, 3) := by decide +kernel
theorem dL_law_2400 : decode cL_law 2400 = .ok (.iconst 0, 1) := by decide +kernel
theorem dL_law_2401 : decode cL_law 2401 = .ok (.ireturn, 1) := by decide +kernel
theorem dL_law_2402 : decode cL_law 2402 = .ok (.goto 250, 3) := by decide +kernel
theorem dL_law_2405 : decode cL_law 2405 = .ok (.aload_n 1, 1) := by decide +kernel
theorem dL_law_2406 : decode cL_law 2406 = .ok (.aload_n 0, 1) := by decide +kernel
theorem dL_law_2407 : decode cL_law 2407 = .ok (.iload 5, 2) := by decide +kernel
theorem dL_law_2409 : decode cL_law 2409 = .ok (.iconst 1, 1) := by decide +kernel
theorem dL_law_2410 : decode cL_law 2410 = .ok (.iadd, 1) := by decide +kernel
theorem dL_law_2411 : decode cL_law 2411 = .ok (.iaload, 1) := by decide +kernel
theorem dL_law_2412 : decode cL_law 2412 = .ok (.i2c, 1) := by decide +kernel
theorem dL_law_2413 : decode cL_law 2413 = .ok (.aload_n 3, 1) := by decide +kernel
theorem dL_law_2414 : decode cL_law 2414 = .ok (.invokestatic 258, 3) := by decide +kernel
theorem dL_law_2417 : decode cL_law 2417 = .ok (.istore 6, 2) := by decide +kernel
theorem dL_law_2419 : decode cL_law 2419 = .ok (.aload_n 2, 1) := by decide +kernel
theorem dL_law_2420 : decode cL_law 2420 = .ok (.aload_n 0, 1) := by decide +kernel
theorem dL_law_2421 : decode cL_law 2421 = .ok (.iload 5, 2) := by decide +kernel
theorem dL_law_2423 : decode cL_law 2423 = .ok (.iconst 1, 1) := by decide +kernel
theorem dL_law_2424 : decode cL_law 2424 = .ok (.iadd, 1) := by decide +kernel
theorem dL_law_2425 : decode cL_law 2425 = .ok (.iaload, 1) := by decide +kernel
theorem dL_law_2426 : decode cL_law 2426 = .ok (.i2c, 1) := by decide +kernel
theorem dL_law_2427 : decode cL_law 2427 = .ok (.invokevirtual 261, 3) := by decide +kernel
theorem dL_law_2430 : decode cL_law 2430 = .ok (.istore 7, 2) := by decide +kernel
theorem dL_law_2432 : decode cL_law 2432 = .ok (.aload_n 2, 1) := by decide +kernel
theorem dL_law_2433 : decode cL_law 2433 = .ok (.invokevirtual 155, 3) := by decide +kernel
theorem dL_law_2436 : decode cL_law 2436 = .ok (.iload 6, 2) := by decide +kernel
theorem dL_law_2438 : decode cL_law 2438 = .ok (.if_icmp .eq 5, 3) := by decide +kernel
theorem dL_law_2441 : decode cL_law 2441 = .ok (.iconst 0, 1) := by decide +kernel
theorem dL_law_2442 : decode cL_law 2442 = .ok (.ireturn, 1) := by decide +kernel
theorem dL_law_2443 : decode cL_law 2443 = .ok (.iload 6, 2) := by decide +kernel
theorem dL_law_2445 : decode cL_law 2445 = .ok (.ifCond .ne 15, 3) := by decide +kernel
theorem dL_law_2448 : decode cL_law 2448 = .ok (.aload_n 3, 1) := by decide +kernel
theorem dL_law_2449 : decode cL_law 2449 = .ok (.iconst 0, 1) := by decide +kernel
theorem dL_law_2450 : decode cL_law 2450 = .ok (.laload, 1) := by decide +kernel
