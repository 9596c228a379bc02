theorem dL_law_2218 : decode cL_law 2218 = .ok (.iconst 0, 1) := by decide +kernel
theorem dL_law_2219 : decode cL_law 2219 = .ok (.daload, 1) := by decide +kernel
theorem dL_law_2220 : decode cL_law 2220 = .ok (.dload 7, 2) := by decide +kernel
theorem dL_law_2222 : decode cL_law 2222 = .ok (.dcmp .l, 1) := by decide +kernel
theorem dL_law_2223 : decode cL_law 2223 = .ok (.ifCond .eq 25, 3) := by decide +kernel
theorem dL_law_2226 : decode cL_law 2226 = .ok (.aload 4, 2) := by decide +kernel
theorem dL_law_2228 : decode cL_law 2228 = .ok (.iconst 0, 1) := by decide +kernel
theorem dL_law_2229 : decode cL_law 2229 = .ok (.daload, 1) := by decide +kernel
theorem dL_law_2230 : decode cL_law 2230 = .ok (.aload 4, 2) := by decide +kernel
theorem dL_law_2232 : decode cL_law 2232 = .ok (.iconst 0, 1) := by decide +kernel
theorem dL_law_2233 : decode cL_law 2233 = .ok (.daload, 1) := by decide +kernel
theorem dL_law_2234 : decode cL_law 2234 = .ok (.dcmp .l, 1) := by decide +kernel
theorem dL_law_2235 : decode cL_law 2235 = .ok (.ifCond .eq 11, 3) := by decide +kernel
theorem dL_law_2238 : decode cL_law 2238 = .ok (.dload 7, 2) := by decide +kernel
theorem dL_law_2240 : decode cL_law 2240 = .ok (.dload 7, 2) := by decide +kernel
theorem dL_law_2242 : decode cL_law 2242 = .ok (.dcmp .l, 1) := by decide +kernel
theorem dL_law_2243 : decode cL_law 2243 = .ok (.ifCond .ne 5, 3) := by decide +kernel
theorem dL_law_2246 : decode cL_law 2246 = .ok (.iconst 0, 1) := by decide +kernel
theorem dL_law_2247 : decode cL_law 2247 = .ok (.ireturn, 1) := by decide +kernel
theorem dL_law_2248 : decode cL_law 2248 = .ok (.goto 586, 3) := by decide +kernel
theorem dL_law_2251 : decode cL_law 2251 = .ok (.aload_n 1, 1) := by decide +kernel
theorem dL_law_2252 : decode cL_law 2252 = .ok (.aload 4, 2) := by decide +kernel
theorem dL_law_2254 : decode cL_law 2254 = .ok (.invokestatic 324, 3) := by decide +kernel
theorem dL_law_2257 : decode cL_law 2257 = .ok (.istore 6, 2) := by decide +kernel
theorem dL_law_2259 : decode cL_law 2259 = .ok (.aload_n 2, 1) := by decide +kernel
theorem dL_law_2260 : decode cL_law 2260 = .ok (.invokevirtual 326, 3) := by decide +kernel
theorem dL_law_2263 : decode cL_law 2263 = .ok (.fstore 7, 2) := by decide +kernel
theorem dL_law_2265 : decode cL_law 2265 = .ok (.aload_n 2, 1) := by decide +kernel
theorem dL_law_2266 : decode cL_law 2266 = .ok (.invokevirtual 161, 3) := by decide +kernel
theorem dL_law_2269 : decode cL_law 2269 = .ok (.iload 6, 2) := by decide +kernel
theorem dL_law_2271 : decode cL_law 2271 = .ok (.if_icmp .eq 5, 3) := by decide +kernel
theorem dL_law_2274 : decode cL_law 2274 = .ok (.iconst 0, 1) := by decide +kernel
theorem dL_law_2275 : decode cL_law 2275 = .ok (.ireturn, 1) := by decide +kernel
theorem dL_law_2276 : decode cL_law 2276 = .ok (.iload 6, 2) := by decide +kernel
theorem dL_law_2278 : decode cL_law 2278 = .ok (.ifCond .ne 36, 3) := by decide +kernel
theorem dL_law_2281 : decode cL_law 2281 = .ok (.aload 4, 2) := by decide +kernel
theorem dL_law_2283 : decode cL_law 2283 = .ok (.iconst 0, 1) := by decide +kernel
theorem dL_law_2284 : decode cL_law 2284 = .ok (.daload, 1) := by decide +kernel
theorem dL_law_2285 : decode cL_law 2285 = .ok (.fload 7, 2) := by decide +kernel
theorem dL_law_2287 : decode cL_law 2287 = .ok (.f2d, 1) := by decide +kernel
theorem dL_law_2288 : decode cL_law 2288 = .ok (.dcmp .l, 1) := by decide +kernel
theorem dL_law_2289 : decode cL_law 2289 = .ok (.ifCond .eq 25, 3) := by decide +kernel
theorem dL_law_2292 : decode cL_law 2292 = .ok (.aload 4, 2) := by decide +kernel
theorem dL_law_2294 : decode cL_law 2294 = .ok (.iconst 0, 1) := by decide +kernel
theorem dL_law_2295 : decode cL_law 2295 = .ok (.daload, 1) := by decide +kernel
theorem dL_law_2296 : decode cL_law 2296 = .ok (.aload 4, 2) := by decide +kernel
theorem dL_law_2298 : decode cL_law 2298 = .ok (.iconst 0, 1) := by decide +kernel
theorem dL_law_2299 : decode cL_law 2299 = .ok (.daload, 1) := by decide +kernel
theorem dL_law_2300 : decode cL_law 2300 = .ok (.dcmp .l, 1) := by decide +kernel
theorem dL_law_2301 : decode cL_law 2301 = .ok (.ifCond .eq 11, 3) := by decide +kernel
theorem dL_law_2304 : decode cL_law 2304 = .ok (.fload 7, 2) := by decide +kernel
theorem dL_law_2306 : decode cL_law 2306 = .ok (.fload 7, 2) := by decide +kernel
theorem dL_law_2308 : decode cL_law 2308 = .ok (.fcmp .l, 1) := by decide +kernel
theorem dL_law_2309 : decode cL_law 2309 = .ok (.ifCond .ne 5, 3) := by decide +kernel
theorem dL_law_2312 : decode cL_law 2312 = .ok (.iconst 0, 1) := by decide +kernel
theorem dL_law_2313 : decode cL_law 2313 = .ok (.ireturn, 1) := by decide +kernel
theorem dL_law_2314 : decode cL_law 2314 = .ok (.goto 520, 3) := by decide +kernel
theorem dL_law_2317 : decode cL_law 2317 = .ok (.aload_n 1, 1) := by decide +kernel
theorem dL_law_2318 : decode cL_law 2318 = .ok (.invokevirtual 327, 3) := by decide +kernel
theorem dL_law_2321 : decode cL_law 2321 = .ok (.aload_n 2, 1) := by decide +kernel
theorem dL_law_2322 : decode cL_law 2322 = .ok (.invokevirtual 331, 3) := by decide +kernel
theorem dL_law_2325 : decode cL_law 2325 = .ok (.if_icmp .eq 509, 3) := by decide +kernel
theorem dL_law_2328 : decode cL_law 2328 = .ok (.iconst 0, 1) := by decide +kernel
theorem dL_law_2329 : decode cL_law 2329 = .ok (.ireturn, 1) := by decide +kernel
theorem dL_law_2330 : decode cL_law 2330 = .ok (.aload_n 1, 1) := by decide +kernel
theorem dL_law_2331 : decode cL_law 2331 = .ok (.invokevirtual 332, 3) := by decide +kernel
theorem dL_law_2334 : decode cL_law 2334 = .ok (.aload_n 2, 1) := by decide +kernel
theorem dL_law_2335 : decode cL_law 2335 = .ok (.invokevirtual 335, 3) := by decide +kernel
theorem dL_law_2338 : decode cL_law 2338 = .ok (.if_icmp .eq 496, 3) := by decide +kernel
theorem dL_law_2341 : decode cL_law 2341 = .ok (.iconst 0, 1) := by decide +kernel
theorem dL_law_2342 : decode cL_law 2342 = .ok (.ireturn, 1) := by decide +kernel
theorem dL_law_2343 : decode cL_law 2343 = .ok (.aload_n 1, 1) := by decide +kernel
theorem dL_law_2344 : decode cL_law 2344 = .ok (.aload_n 0, 1) := by decide +kernel
theorem dL_law_2345 : decode cL_law 2345 = .ok (.iload 5, 2) := by decide +kernel
theorem dL_law_2347 : decode cL_law 2347 = .ok (.iconst 1, 1) := by decide +kernel
theorem dL_law_2348 : decode cL_law 2348 = .ok (.iadd, 1) := by decide +kernel
theorem dL_law_2349 : decode cL_law 2349 = .ok (.iaload, 1) := by decide +kernel
theorem dL_law_2350 : decode cL_law 2350 = .ok (.aload_n 3, 1) := by decide +kernel
theorem dL_law_2351 : decode cL_law 2351 = .ok (.invokestatic 336, 3) := by decide +kernel
theorem dL_law_2354 : decode cL_law 2354 = .ok (.istore 6, 2) := by decide +kernel
theorem dL_law_2356 : decode cL_law 2356 = .ok (.aload_n 2, 1) := by decide +kernel
theorem dL_law_2357 : decode cL_law 2357 = .ok (.aload_n 0, 1) := by decide +kernel
theorem dL_law_2358 : decode cL_law 2358 = .ok (.iload 5, 2) := by decide +kernel
theorem dL_law_2360 : decode cL_law 2360 = .ok (.iconst 1, 1) := by decide +kernel
theorem dL_law_2361 : decode cL_law 2361 = .ok (.iadd, 1) := by decide +kernel
theorem dL_law_2362 : decode cL_law 2362 = .ok (.iaload, 1) := by decide +kernel
theorem dL_law_2363 : decode cL_law 2363 = .ok (.invokevirtual 338, 3) := by decide +kernel
theorem dL_law_2366 : decode cL_law 2366 = .ok (.istore 7, 2) := by decide +kernel
theorem dL_law_2368 : decode cL_law 2368 = .ok (.aload_n 2, 1) := by decide +kernel
theorem dL_law_2369 : decode cL_law 2369 = .ok (.invokevirtual 161, 3) := by decide +kernel
theorem dL_law_2372 : decode cL_law 2372 = .ok (.iload 6, 2) := by decide +kernel
theorem dL_law_2374 : decode cL_law 2374 = .ok (.if_icmp .eq 5, 3) := by decide +kernel
theorem dL_law_2377 : decode cL_law 2377 = .ok (.iconst 0, 1) := by decide +kernel
theorem dL_law_2378 : decode cL_law 2378 = .ok (.ireturn, 1) := by decide +kernel
theorem dL_law_2379 : decode cL_law 2379 = .ok (.iload 6, 2) := by decide +kernel
theorem dL_law_2381 : decode cL_law 2381 = .ok (.ifCond .ne 15, 3) := by decide +kernel
theorem dL_law_2384 : decode cL_law 2384 = .ok (.aload_n 3, 1) := by decide +kernel
theorem dL_law_2385 : decode cL_law 2385 = .ok (.iconst 0, 1) := by decide +kernel
theorem dL_law_2386 : decode cL_law 2386 = .ok (.laload, 1) := by decide +kernel
theorem dL_law_2387 : decode cL_law 2387 = .ok (.iload 7, 2) := by decide +kernel
theorem dL_law_2389 : decode cL_law 2389 = .ok (.i2l, 1) := by decide +kernel
theorem dL_law_2390 : decode cL_law 2390 = .ok (.lcmp, 1) := by decide +kernel
theorem dL_law_2391 : decode cL_law 2391 = .ok (.ifCond .eq 5, 3) := by decide +kernel
theorem dL_law_2394 : decode cL_law 2394 = .ok (.iconst 0, 1) := by decide +kernel
theorem dL_law_2395 : decode cL_law 2395 = .ok (.ireturn, 1) := by decide +kernel
theorem dL_law_2396 : decode cL_law 2396 = .ok (.goto 438, 3) := by decide +kernel
theorem dL_law_2399 : decode cL_law 2399 = .ok (.aload_n 1, 1) := by decide +kernel
theorem dL_law_2400 : decode cL_law 2400 = .ok (.aload_n 0, 1) := by decide +kernel
theorem dL_law_2401 : decode cL_law 2401 = .ok (.iload 5, 2) := by decide +kernel
theorem dL_law_2403 : decode cL_law 2403 = .ok (.iconst 1, 1) := by decide +kernel
theorem dL_law_2404 : decode cL_law 2404 = .ok (.iadd, 1) := by decide +kernel
theorem dL_law_2405 : decode cL_law 2405 = .ok (.iaload, 1) := by decide +kernel
theorem dL_law_2406 : decode cL_law 2406 = .ok (.aload_n 3, 1) := by decide +kernel
theorem dL_law_2407 : decode cL_law 2407 = .ok (.invokestatic 339, 3) := by decide +kernel
theorem dL_law_2410 : decode cL_law 2410 = .ok (.istore 6, 2) := by decide +kernel
theorem dL_law_2412 : decode cL_law 2412 = .ok (.aload_n 2, 1) := by decide +kernel
theorem dL_law_2413 : decode cL_law 2413 = .ok (.aload_n 0, 1) := by decide +kernel
theorem dL_law_2414 : decode cL_law 2414 = .ok (.iload 5, 2) := by decide +kernel
theorem dL_law_2416 : decode cL_law 2416 = .ok (.iconst 1, 1) := by decide +kernel
theorem dL_law_2417 : decode cL_law 2417 = .ok (.iadd, 1) := by decide +kernel
theorem dL_law_2418 : decode cL_law 2418 = .ok (.iaload, 1) := by decide +kernel
theorem dL_law_2419 : decode cL_law 2419 = .ok (.invokevirtual 341, 3) := by decide +kernel
theorem dL_law_2422 : decode cL_law 2422 = .ok (.istore 7, 2) := by decide +kernel
theorem dL_law_2424 : decode cL_law 2424 = .ok (.aload_n 2, 1) := by decide +kernel
theorem dL_law_2425 : decode cL_law 2425 = .ok (.invokevirtual 161, 3) := by decide +kernel
theorem dL_law_2428 : decode cL_law 2428 = .ok (.iload 6, 2) := by decide +kernel
theorem dL_law_2430 : decode cL_law 2430 = .ok (.if_icmp .eq 5, 3) := by decide +kernel
theorem dL_law_2433 : decode cL_law 2433 = .ok (.iconst 0, 1) := by decide +kernel
theorem dL_law_2434 : decode cL_law 2434 = .ok (.ireturn, 1) := by decide +kernel
theorem dL_law_2435 : decode cL_law 2435 = .ok (.iload 6, 2) := by decide +kernel
theorem dL_law_2437 : decode cL_law 2437 = .ok (.ifCond .ne 15, 3) := by decide +kernel
theorem dL_law_2440 : decode cL_law 2440 = .ok (.aload_n 3, 1) := by decide +kernel
theorem dL_law_2441 : decode cL_law 2441 = .ok (.iconst 0, 1) := by decide +kernel
theorem dL_law_2442 : decode cL_law 2442 = .ok (.laload, 1) := by decide +kernel
theorem dL_law_2443 : decode cL_law 2443 = .ok (.iload 7, 2) := by decide +kernel
theorem dL_law_2445 : decode cL_law 2445 = .ok (.i2l, 1) := by decide +kernel
theorem dL_law_2446 : decode cL_law 2446 = .ok (.lcmp, 1) := by decide +kernel
theorem dL_law_2447 : decode cL_law 2447 = .ok (.ifCond .eq 5, 3) := by decide +kernel
theorem dL_law_2450 : decode cL_law 2450 = .ok (.iconst 0, 1) := by decide +kernel
theorem dL_law_2451 : decode cL_law 2451 = .ok (.ireturn, 1) := by decide +kernel
theorem dL_law_2452 : decode cL_law 2452 = .ok (.goto 382, 3) := by decide +kernel
theorem dL_law_2455 : decode cL_law 2455 = .ok (.aload_n 1, 1) := by decide +kernel
theorem dL_law_2456 : decode cL_law 2456 = .ok (.aload_n 0, 1) := by decide +kernel
theorem dL_law_2457 : decode cL_law 2457 = .ok (.iload 5, 2) := by decide +kernel
theorem dL_law_2459 : decode cL_law 2459 = .ok (.iconst 1, 1) := by decide +kernel
theorem dL_law_2460 : decode cL_law 2460 = .ok (.iadd, 1) := by decide +kernel
theorem dL_law_2461 : decode cL_law 2461 = .ok (.iaload, 1) := by decide +kernel
theorem dL_law_2462 : decode cL_law 2462 = .ok (.i2c, 1) := by decide +kernel
theorem dL_law_2463 : decode cL_law 2463 = .ok (.aload_n 3, 1) := by decide +kernel
theorem dL_law_2464 : decode cL_law 2464 = .ok (.invokestatic 342, 3) := by decide +kernel
theorem dL_law_2467 : decode cL_law 2467 = .ok (.istore 6, 2) := by decide +kernel
theorem dL_law_2469 : decode cL_law 2469 = .ok (.aload_n 2, 1) := by decide +kernel
theorem dL_law_2470 : decode cL_law 2470 = .ok (.aload_n 0, 1) := by decide +kernel
theorem dL_law_2471 : decode cL_law 2471 = .ok (.iload 5, 2) := by decide +kernel
theorem dL_law_2473 : decode cL_law 2473 = .ok (.iconst 1, 1) := by decide +kernel
theorem dL_law_2474 : decode cL_law 2474 = .ok (.iadd, 1) := by decide +kernel
theorem dL_law_2475 : decode cL_law 2475 = .ok (.iaload, 1) := by decide +kernel
theorem dL_law_2476 : decode cL_law 2476 = .ok (.i2c, 1) := by decide +kernel
theorem dL_law_2477 : decode cL_law 2477 = .ok (.invokevirtual 345, 3) := by decide +kernel
theorem dL_law_2480 : decode cL_law 2480 = .ok (.istore 7, 2) := by decide +kernel
theorem dL_law_2482 : decode cL_law 2482 = .ok (.aload_n 2, 1) := by decide +kernel
theorem dL_law_2483 : decode cL_law 2483 = .ok (.invokevirtual 161, 3) := by decide +kernel
theorem dL_law_2486 : decode cL_law 2486 = .ok (.iload 6, 2) := by decide +kernel
theorem dL_law_2488 : decode cL_law 2488 = .ok (.if_icmp .eq 5, 3) := by decide +kernel
theorem dL_law_2491 : decode cL_law 2491 = .ok (.iconst 0, 1) := by decide +kernel
theorem dL_law_2492 : decode cL_law 2492 = .ok (.ireturn, 1) := by decide +kernel
theorem dL_law_2493 : decode cL_law 2493 = .ok (.iload 6, 2) := by decide +kernel
theorem dL_law_2495 : decode cL_law 2495 = .ok (.ifCond .ne 15, 3) := by decide +kernel
theorem dL_law_2498 : decode cL_law 2498 = .ok (.aload_n 3, 1) := by decide +kernel
theorem dL_law_2499 : decode cL_law 2499 = .ok (.iconst 0, 1) := by decide +kernel
theorem dL_law_2500 : decode cL_law 2500 = .ok (.laload, 1) := by decide +kernel
theorem dL_law_2501 : decode cL_law 2501 = .ok (.iload 7, 2) := by decide +kernel
theorem dL_law_2503 : decode cL_law 2503 = .ok (.i2l, 1) := by decide +kernel
theorem dL_law_2504 : decode cL_law 2504 = .ok (.lcmp, 1) := by decide +kernel
theorem dL_law_2505 : decode cL_law 2505 = .ok (.ifCond .eq 5, 3) := by decide +kernel
theorem dL_law_2508 : decode cL_law 2508 = .ok (.iconst 0, 1) := by decide +kernel
theorem dL_law_2509 : decode cL_law 2509 = .ok (.ireturn, 1) := by decide +kernel
theorem dL_law_2510 : decode cL_law 2510 = .ok (.goto 324, 3) := by decide +kernel
theorem dL_law_2513 : decode cL_law 2513 = .ok (.aload_n 1, 1) := by decide +kernel
theorem dL_law_2514 : decode cL_law 2514 = .ok (.aload_n 3, 1) := by decide +kernel
theorem dL_law_2515 : decode cL_law 2515 = .ok (.invokestatic 346, 3) := by decide +kernel
theorem dL_law_2518 : decode cL_law 2518 = .ok (.istore 6, 2) := by decide +kernel
theorem dL_law_2520 : decode cL_law 2520 = .ok (.aload_n 2, 1) := by decide +kernel
theorem dL_law_2521 : decode cL_law 2521 = .ok (.invokevirtual 348, 3) := by decide +kernel
theorem dL_law_2524 : decode cL_law 2524 = .ok (.istore 7, 2) := by decide +kernel
theorem dL_law_2526 : decode cL_law 2526 = .ok (.aload_n 2, 1) := by decide +kernel
theorem dL_law_2527 : decode cL_law 2527 = .ok (.invokevirtual 161, 3) := by decide +kernel
theorem dL_law_2530 : decode cL_law 2530 = .ok (.iload 6, 2) := by decide +kernel
theorem dL_law_2532 : decode cL_law 2532 = .ok (.if_icmp .eq 5, 3) := by decide +kernel
theorem dL_law_2535 : decode cL_law 2535 = .ok (.iconst 0, 1) := by decide +kernel
theorem dL_law_2536 : decode cL_law 2536 = .ok (.ireturn, 1) := by decide +kernel
theorem dL_law_2537 : decode cL_law 2537 = .ok (.iload 6, 2) := by decide +kernel
theorem dL_law_2539 : decode cL_law 2539 = .ok (.ifCond .ne 15, 3) := by decide +kernel
theorem dL_law_2542 : decode cL_law 2542 = .ok (.aload_n 3, 1) := by decide +kernel
theorem dL_law_2543 : decode cL_law 2543 = .ok (.iconst 0, 1) := by decide +kernel
theorem dL_law_2544 : decode cL_law 2544 = .ok (.laload, 1) := by decide +kernel
theorem dL_law_2545 : decode cL_law 2545 = .ok (.iload 7, 2) := by decide +kernel
theorem dL_law_2547 : decode cL_law 2547 = .ok (.i2l, 1) := by decide +kernel
theorem dL_law_2548 : decode cL_law 2548 = .ok (.lcmp, 1) := by decide +kernel
theorem dL_law_2549 : decode cL_law 2549 = .ok (.ifCond .eq 5, 3) := by decide +kernel
