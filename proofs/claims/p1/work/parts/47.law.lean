theorem dL_law__2287 : decode cL_law_ 2287 = .ok (.aload_n 1, 1) := by decide +kernel
theorem dL_law__2288 : decode cL_law_ 2288 = .ok (.aload_n 0, 1) := by decide +kernel
theorem dL_law__2289 : decode cL_law_ 2289 = .ok (.iload 4, 2) := by decide +kernel
theorem dL_law__2291 : decode cL_law_ 2291 = .ok (.iconst 1, 1) := by decide +kernel
theorem dL_law__2292 : decode cL_law_ 2292 = .ok (.iadd, 1) := by decide +kernel
theorem dL_law__2293 : decode cL_law_ 2293 = .ok (.iaload, 1) := by decide +kernel
theorem dL_law__2294 : decode cL_law_ 2294 = .ok (.aload_n 0, 1) := by decide +kernel
theorem dL_law__2295 : decode cL_law_ 2295 = .ok (.iload 4, 2) := by decide +kernel
theorem dL_law__2297 : decode cL_law_ 2297 = .ok (.iconst 2, 1) := by decide +kernel
theorem dL_law__2298 : decode cL_law_ 2298 = .ok (.iadd, 1) := by decide +kernel
theorem dL_law__2299 : decode cL_law_ 2299 = .ok (.iaload, 1) := by decide +kernel
theorem dL_law__2300 : decode cL_law_ 2300 = .ok (.aload_n 0, 1) := by decide +kernel
theorem dL_law__2301 : decode cL_law_ 2301 = .ok (.iload 4, 2) := by decide +kernel
theorem dL_law__2303 : decode cL_law_ 2303 = .ok (.iconst 3, 1) := by decide +kernel
theorem dL_law__2304 : decode cL_law_ 2304 = .ok (.iadd, 1) := by decide +kernel
theorem dL_law__2305 : decode cL_law_ 2305 = .ok (.iaload, 1) := by decide +kernel
theorem dL_law__2306 : decode cL_law_ 2306 = .ok (.aload_n 0, 1) := by decide +kernel
theorem dL_law__2307 : decode cL_law_ 2307 = .ok (.iload 4, 2) := by decide +kernel
theorem dL_law__2309 : decode cL_law_ 2309 = .ok (.iconst 4, 1) := by decide +kernel
theorem dL_law__2310 : decode cL_law_ 2310 = .ok (.iadd, 1) := by decide +kernel
theorem dL_law__2311 : decode cL_law_ 2311 = .ok (.iaload, 1) := by decide +kernel
theorem dL_law__2312 : decode cL_law_ 2312 = .ok (.aload_n 0, 1) := by decide +kernel
theorem dL_law__2313 : decode cL_law_ 2313 = .ok (.iload 4, 2) := by decide +kernel
theorem dL_law__2315 : decode cL_law_ 2315 = .ok (.iconst 5, 1) := by decide +kernel
theorem dL_law__2316 : decode cL_law_ 2316 = .ok (.iadd, 1) := by decide +kernel
theorem dL_law__2317 : decode cL_law_ 2317 = .ok (.iaload, 1) := by decide +kernel
theorem dL_law__2318 : decode cL_law_ 2318 = .ok (.aload_n 0, 1) := by decide +kernel
theorem dL_law__2319 : decode cL_law_ 2319 = .ok (.iload 4, 2) := by decide +kernel
theorem dL_law__2321 : decode cL_law_ 2321 = .ok (.bipush 6, 2) := by decide +kernel
theorem dL_law__2323 : decode cL_law_ 2323 = .ok (.iadd, 1) := by decide +kernel
theorem dL_law__2324 : decode cL_law_ 2324 = .ok (.iaload, 1) := by decide +kernel
theorem dL_law__2325 : decode cL_law_ 2325 = .ok (.aload_n 0, 1) := by decide +kernel
theorem dL_law__2326 : decode cL_law_ 2326 = .ok (.iload 4, 2) := by decide +kernel
theorem dL_law__2328 : decode cL_law_ 2328 = .ok (.bipush 7, 2) := by decide +kernel
theorem dL_law__2330 : decode cL_law_ 2330 = .ok (.iadd, 1) := by decide +kernel
theorem dL_law__2331 : decode cL_law_ 2331 = .ok (.iaload, 1) := by decide +kernel
theorem dL_law__2332 : decode cL_law_ 2332 = .ok (.aload_n 3, 1) := by decide +kernel
theorem dL_law__2333 : decode cL_law_ 2333 = .ok (.invokestatic 223, 3) := by decide +kernel
theorem dL_law__2336 : decode cL_law_ 2336 = .ok (.istore 5, 2) := by decide +kernel
theorem dL_law__2338 : decode cL_law_ 2338 = .ok (.aload_n 2, 1) := by decide +kernel
theorem dL_law__2339 : decode cL_law_ 2339 = .ok (.aload_n 0, 1) := by decide +kernel
theorem dL_law__2340 : decode cL_law_ 2340 = .ok (.iload 4, 2) := by decide +kernel
theorem dL_law__2342 : decode cL_law_ 2342 = .ok (.iconst 1, 1) := by decide +kernel
theorem dL_law__2343 : decode cL_law_ 2343 = .ok (.iadd, 1) := by decide +kernel
theorem dL_law__2344 : decode cL_law_ 2344 = .ok (.iaload, 1) := by decide +kernel
theorem dL_law__2345 : decode cL_law_ 2345 = .ok (.aload_n 0, 1) := by decide +kernel
theorem dL_law__2346 : decode cL_law_ 2346 = .ok (.iload 4, 2) := by decide +kernel
theorem dL_law__2348 : decode cL_law_ 2348 = .ok (.iconst 2, 1) := by decide +kernel
theorem dL_law__2349 : decode cL_law_ 2349 = .ok (.iadd, 1) := by decide +kernel
theorem dL_law__2350 : decode cL_law_ 2350 = .ok (.iaload, 1) := by decide +kernel
theorem dL_law__2351 : decode cL_law_ 2351 = .ok (.aload_n 0, 1) := by decide +kernel
theorem dL_law__2352 : decode cL_law_ 2352 = .ok (.iload 4, 2) := by decide +kernel
theorem dL_law__2354 : decode cL_law_ 2354 = .ok (.iconst 3, 1) := by decide +kernel
theorem dL_law__2355 : decode cL_law_ 2355 = .ok (.iadd, 1) := by decide +kernel
theorem dL_law__2356 : decode cL_law_ 2356 = .ok (.iaload, 1) := by decide +kernel
theorem dL_law__2357 : decode cL_law_ 2357 = .ok (.aload_n 0, 1) := by decide +kernel
theorem dL_law__2358 : decode cL_law_ 2358 = .ok (.iload 4, 2) := by decide +kernel
theorem dL_law__2360 : decode cL_law_ 2360 = .ok (.iconst 4, 1) := by decide +kernel
theorem dL_law__2361 : decode cL_law_ 2361 = .ok (.iadd, 1) := by decide +kernel
theorem dL_law__2362 : decode cL_law_ 2362 = .ok (.iaload, 1) := by decide +kernel
theorem dL_law__2363 : decode cL_law_ 2363 = .ok (.aload_n 0, 1) := by decide +kernel
theorem dL_law__2364 : decode cL_law_ 2364 = .ok (.iload 4, 2) := by decide +kernel
theorem dL_law__2366 : decode cL_law_ 2366 = .ok (.iconst 5, 1) := by decide +kernel
theorem dL_law__2367 : decode cL_law_ 2367 = .ok (.iadd, 1) := by decide +kernel
theorem dL_law__2368 : decode cL_law_ 2368 = .ok (.iaload, 1) := by decide +kernel
theorem dL_law__2369 : decode cL_law_ 2369 = .ok (.aload_n 0, 1) := by decide +kernel
theorem dL_law__2370 : decode cL_law_ 2370 = .ok (.iload 4, 2) := by decide +kernel
theorem dL_law__2372 : decode cL_law_ 2372 = .ok (.bipush 6, 2) := by decide +kernel
theorem dL_law__2374 : decode cL_law_ 2374 = .ok (.iadd, 1) := by decide +kernel
theorem dL_law__2375 : decode cL_law_ 2375 = .ok (.iaload, 1) := by decide +kernel
theorem dL_law__2376 : decode cL_law_ 2376 = .ok (.aload_n 0, 1) := by decide +kernel
theorem dL_law__2377 : decode cL_law_ 2377 = .ok (.iload 4, 2) := by decide +kernel
theorem dL_law__2379 : decode cL_law_ 2379 = .ok (.bipush 7, 2) := by decide +kernel
theorem dL_law__2381 : decode cL_law_ 2381 = .ok (.iadd, 1) := by decide +kernel
theorem dL_law__2382 : decode cL_law_ 2382 = .ok (.iaload, 1) := by decide +kernel
theorem dL_law__2383 : decode cL_law_ 2383 = .ok (.invokevirtual 226, 3) := by decide +kernel
theorem dL_law__2386 : decode cL_law_ 2386 = .ok (.istore 6, 2) := by decide +kernel
theorem dL_law__2388 : decode cL_law_ 2388 = .ok (.aload_n 2, 1) := by decide +kernel
theorem dL_law__2389 : decode cL_law_ 2389 = .ok (.invokevirtual 131, 3) := by decide +kernel
theorem dL_law__2392 : decode cL_law_ 2392 = .ok (.iload 5, 2) := by decide +kernel
theorem dL_law__2394 : decode cL_law_ 2394 = .ok (.if_icmp .eq 5, 3) := by decide +kernel
theorem dL_law__2399 : decode cL_law_ 2399 = .ok (.iload 5, 2) := by decide +kernel
theorem dL_law__2401 : decode cL_law_ 2401 = .ok (.ifCond .ne 15, 3) := by decide +kernel
theorem dL_law__2416 : decode cL_law_ 2416 = .ok (.goto 339, 3) := by decide +kernel
theorem dL_law__2419 : decode cL_law_ 2419 = .ok (.aload_n 1, 1) := by decide +kernel
theorem dL_law__2420 : decode cL_law_ 2420 = .ok (.aload_n 0, 1) := by decide +kernel
theorem dL_law__2421 : decode cL_law_ 2421 = .ok (.iload 4, 2) := by decide +kernel
theorem dL_law__2423 : decode cL_law_ 2423 = .ok (.iconst 1, 1) := by decide +kernel
theorem dL_law__2424 : decode cL_law_ 2424 = .ok (.iadd, 1) := by decide +kernel
theorem dL_law__2425 : decode cL_law_ 2425 = .ok (.iaload, 1) := by decide +kernel
theorem dL_law__2426 : decode cL_law_ 2426 = .ok (.aload_n 0, 1) := by decide +kernel
theorem dL_law__2427 : decode cL_law_ 2427 = .ok (.iload 4, 2) := by decide +kernel
theorem dL_law__2429 : decode cL_law_ 2429 = .ok (.iconst 2, 1) := by decide +kernel
theorem dL_law__2430 : decode cL_law_ 2430 = .ok (.iadd, 1) := by decide +kernel
theorem dL_law__2431 : decode cL_law_ 2431 = .ok (.iaload, 1) := by decide +kernel
theorem dL_law__2432 : decode cL_law_ 2432 = .ok (.aload_n 0, 1) := by decide +kernel
theorem dL_law__2433 : decode cL_law_ 2433 = .ok (.iload 4, 2) := by decide +kernel
theorem dL_law__2435 : decode cL_law_ 2435 = .ok (.iconst 3, 1) := by decide +kernel
theorem dL_law__2436 : decode cL_law_ 2436 = .ok (.iadd, 1) := by decide +kernel
theorem dL_law__2437 : decode cL_law_ 2437 = .ok (.iaload, 1) := by decide +kernel
theorem dL_law__2438 : decode cL_law_ 2438 = .ok (.aload_n 3, 1) := by decide +kernel
theorem dL_law__2439 : decode cL_law_ 2439 = .ok (.invokestatic 227, 3) := by decide +kernel
theorem dL_law__2442 : decode cL_law_ 2442 = .ok (.istore 5, 2) := by decide +kernel
theorem dL_law__2444 : decode cL_law_ 2444 = .ok (.aload_n 2, 1) := by decide +kernel
theorem dL_law__2445 : decode cL_law_ 2445 = .ok (.aload_n 0, 1) := by decide +kernel
theorem dL_law__2446 : decode cL_law_ 2446 = .ok (.iload 4, 2) := by decide +kernel
theorem dL_law__2448 : decode cL_law_ 2448 = .ok (.iconst 1, 1) := by decide +kernel
theorem dL_law__2449 : decode cL_law_ 2449 = .ok (.iadd, 1) := by decide +kernel
theorem dL_law__2450 : decode cL_law_ 2450 = .ok (.iaload, 1) := by decide +kernel
theorem dL_law__2451 : decode cL_law_ 2451 = .ok (.aload_n 0, 1) := by decide +kernel
theorem dL_law__2452 : decode cL_law_ 2452 = .ok (.iload 4, 2) := by decide +kernel
theorem dL_law__2454 : decode cL_law_ 2454 = .ok (.iconst 2, 1) := by decide +kernel
theorem dL_law__2455 : decode cL_law_ 2455 = .ok (.iadd, 1) := by decide +kernel
theorem dL_law__2456 : decode cL_law_ 2456 = .ok (.iaload, 1) := by decide +kernel
theorem dL_law__2457 : decode cL_law_ 2457 = .ok (.aload_n 0, 1) := by decide +kernel
theorem dL_law__2458 : decode cL_law_ 2458 = .ok (.iload 4, 2) := by decide +kernel
theorem dL_law__2460 : decode cL_law_ 2460 = .ok (.iconst 3, 1) := by decide +kernel
theorem dL_law__2461 : decode cL_law_ 2461 = .ok (.iadd, 1) := by decide +kernel
theorem dL_law__2462 : decode cL_law_ 2462 = .ok (.iaload, 1) := by decide +kernel
theorem dL_law__2463 : decode cL_law_ 2463 = .ok (.invokevirtual 229, 3) := by decide +kernel
theorem dL_law__2466 : decode cL_law_ 2466 = .ok (.istore 6, 2) := by decide +kernel
theorem dL_law__2468 : decode cL_law_ 2468 = .ok (.aload_n 2, 1) := by decide +kernel
theorem dL_law__2469 : decode cL_law_ 2469 = .ok (.invokevirtual 131, 3) := by decide +kernel
theorem dL_law__2472 : decode cL_law_ 2472 = .ok (.iload 5, 2) := by decide +kernel
theorem dL_law__2474 : decode cL_law_ 2474 = .ok (.if_icmp .eq 5, 3) := by decide +kernel
theorem dL_law__2479 : decode cL_law_ 2479 = .ok (.iload 5, 2) := by decide +kernel
theorem dL_law__2481 : decode cL_law_ 2481 = .ok (.ifCond .ne 15, 3) := by decide +kernel
theorem dL_law__2484 : decode cL_law_ 2484 = .ok (.aload_n 3, 1) := by decide +kernel
theorem dL_law__2485 : decode cL_law_ 2485 = .ok (.iconst 0, 1) := by decide +kernel
theorem dL_law__2486 : decode cL_law_ 2486 = .ok (.laload, 1) := by decide +kernel
theorem dL_law__2487 : decode cL_law_ 2487 = .ok (.iload 6, 2) := by decide +kernel
theorem dL_law__2489 : decode cL_law_ 2489 = .ok (.i2l, 1) := by decide +kernel
theorem dL_law__2490 : decode cL_law_ 2490 = .ok (.lcmp, 1) := by decide +kernel
theorem dL_law__2491 : decode cL_law_ 2491 = .ok (.ifCond .eq 5, 3) := by decide +kernel
theorem dL_law__2496 : decode cL_law_ 2496 = .ok (.goto 259, 3) := by decide +kernel
theorem dL_law__2499 : decode cL_law_ 2499 = .ok (.aload_n 1, 1) := by decide +kernel
theorem dL_law__2500 : decode cL_law_ 2500 = .ok (.aload_n 0, 1) := by decide +kernel
theorem dL_law__2501 : decode cL_law_ 2501 = .ok (.iload 4, 2) := by decide +kernel
theorem dL_law__2503 : decode cL_law_ 2503 = .ok (.iconst 1, 1) := by decide +kernel
theorem dL_law__2504 : decode cL_law_ 2504 = .ok (.iadd, 1) := by decide +kernel
theorem dL_law__2505 : decode cL_law_ 2505 = .ok (.iaload, 1) := by decide +kernel
theorem dL_law__2506 : decode cL_law_ 2506 = .ok (.aload_n 3, 1) := by decide +kernel
theorem dL_law__2507 : decode cL_law_ 2507 = .ok (.invokestatic 230, 3) := by decide +kernel
theorem dL_law__2510 : decode cL_law_ 2510 = .ok (.istore 5, 2) := by decide +kernel
theorem dL_law__2512 : decode cL_law_ 2512 = .ok (.aload_n 2, 1) := by decide +kernel
theorem dL_law__2513 : decode cL_law_ 2513 = .ok (.aload_n 0, 1) := by decide +kernel
theorem dL_law__2514 : decode cL_law_ 2514 = .ok (.iload 4, 2) := by decide +kernel
theorem dL_law__2516 : decode cL_law_ 2516 = .ok (.iconst 1, 1) := by decide +kernel
theorem dL_law__2517 : decode cL_law_ 2517 = .ok (.iadd, 1) := by decide +kernel
theorem dL_law__2518 : decode cL_law_ 2518 = .ok (.iaload, 1) := by decide +kernel
theorem dL_law__2519 : decode cL_law_ 2519 = .ok (.invokevirtual 232, 3) := by decide +kernel
theorem dL_law__2522 : decode cL_law_ 2522 = .ok (.istore 6, 2) := by decide +kernel
theorem dL_law__2524 : decode cL_law_ 2524 = .ok (.aload_n 2, 1) := by decide +kernel
theorem dL_law__2525 : decode cL_law_ 2525 = .ok (.invokevirtual 131, 3) := by decide +kernel
theorem dL_law__2528 : decode cL_law_ 2528 = .ok (.iload 5, 2) := by decide +kernel
theorem dL_law__2530 : decode cL_law_ 2530 = .ok (.if_icmp .eq 5, 3) := by decide +kernel
theorem dL_law__2535 : decode cL_law_ 2535 = .ok (.iload 5, 2) := by decide +kernel
theorem dL_law__2537 : decode cL_law_ 2537 = .ok (.ifCond .ne 15, 3) := by decide +kernel
theorem dL_law__2540 : decode cL_law_ 2540 = .ok (.aload_n 3, 1) := by decide +kernel
theorem dL_law__2541 : decode cL_law_ 2541 = .ok (.iconst 0, 1) := by decide +kernel
theorem dL_law__2542 : decode cL_law_ 2542 = .ok (.laload, 1) := by decide +kernel
theorem dL_law__2543 : decode cL_law_ 2543 = .ok (.iload 6, 2) := by decide +kernel
theorem dL_law__2545 : decode cL_law_ 2545 = .ok (.i2l, 1) := by decide +kernel
theorem dL_law__2546 : decode cL_law_ 2546 = .ok (.lcmp, 1) := by decide +kernel
theorem dL_law__2547 : decode cL_law_ 2547 = .ok (.ifCond .eq 5, 3) := by decide +kernel
theorem dL_law__2552 : decode cL_law_ 2552 = .ok (.goto 203, 3) := by decide +kernel
theorem dL_law__2555 : decode cL_law_ 2555 = .ok (.aload_n 1, 1) := by decide +kernel
theorem dL_law__2556 : decode cL_law_ 2556 = .ok (.aload_n 0, 1) := by decide +kernel
theorem dL_law__2557 : decode cL_law_ 2557 = .ok (.iload 4, 2) := by decide +kernel
theorem dL_law__2559 : decode cL_law_ 2559 = .ok (.iconst 1, 1) := by decide +kernel
theorem dL_law__2560 : decode cL_law_ 2560 = .ok (.iadd, 1) := by decide +kernel
theorem dL_law__2561 : decode cL_law_ 2561 = .ok (.iaload, 1) := by decide +kernel
theorem dL_law__2562 : decode cL_law_ 2562 = .ok (.aload_n 3, 1) := by decide +kernel
theorem dL_law__2563 : decode cL_law_ 2563 = .ok (.invokestatic 233, 3) := by decide +kernel
theorem dL_law__2566 : decode cL_law_ 2566 = .ok (.istore 5, 2) := by decide +kernel
theorem dL_law__2568 : decode cL_law_ 2568 = .ok (.aload_n 2, 1) := by decide +kernel
theorem dL_law__2569 : decode cL_law_ 2569 = .ok (.aload_n 0, 1) := by decide +kernel
theorem dL_law__2570 : decode cL_law_ 2570 = .ok (.iload 4, 2) := by decide +kernel
theorem dL_law__2572 : decode cL_law_ 2572 = .ok (.iconst 1, 1) := by decide +kernel
theorem dL_law__2573 : decode cL_law_ 2573 = .ok (.iadd, 1) := by decide +kernel
theorem dL_law__2574 : decode cL_law_ 2574 = .ok (.iaload, 1) := by decide +kernel
theorem dL_law__2575 : decode cL_law_ 2575 = .ok (.invokevirtual 235, 3) := by decide +kernel
theorem dL_law__2578 : decode cL_law_ 2578 = .ok (.istore 6, 2) := by decide +kernel
theorem dL_law__2580 : decode cL_law_ 2580 = .ok (.aload_n 2, 1) := by decide +kernel
theorem dL_law__2581 : decode cL_law_ 2581 = .ok (.invokevirtual 131, 3) := by decide +kernel
theorem dL_law__2584 : decode cL_law_ 2584 = .ok (.iload 5, 2) := by decide +kernel
theorem dL_law__2586 : decode cL_law_ 2586 = .ok (.if_icmp .eq 5, 3) := by decide +kernel
theorem dL_law__2591 : decode cL_law_ 2591 = .ok (.iload 5, 2) := by decide +kernel
theorem dL_law__2593 : decode cL_law_ 2593 = .ok (.ifCond .ne 15, 3) := by decide +kernel
theorem dL_law__2596 : decode cL_law_ 2596 = .ok (.aload_n 3, 1) := by decide +kernel
theorem dL_law__2597 : decode cL_law_ 2597 = .ok (.iconst 0, 1) := by decide +kernel
theorem dL_law__2598 : decode cL_law_ 2598 = .ok (.laload, 1) := by decide +kernel
theorem dL_law__2599 : decode cL_law_ 2599 = .ok (.iload 6, 2) := by decide +kernel
theorem dL_law__2601 : decode cL_law_ 2601 = .ok (.i2l, 1) := by decide +kernel
theorem dL_law__2602 : decode cL_law_ 2602 = .ok (.lcmp, 1) := by decide +kernel
theorem dL_law__2603 : decode cL_law_ 2603 = .ok (.ifCond .eq 5, 3) := by decide +kernel
theorem dL_law__2608 : decode cL_law_ 2608 = .ok (.goto 147, 3) := by decide +kernel
theorem dL_law__2611 : decode cL_law_ 2611 = .ok (.aload_n 1, 1) := by decide +kernel
theorem dL_law__2612 : decode cL_law_ 2612 = .ok (.aload_n 0, 1) := by decide +kernel
theorem dL_law__2613 : decode cL_law_ 2613 = .ok (.iload 4, 2) := by decide +kernel
theorem dL_law__2615 : decode cL_law_ 2615 = .ok (.iconst 1, 1) := by decide +kernel
theorem dL_law__2616 : decode cL_law_ 2616 = .ok (.iadd, 1) := by decide +kernel
theorem dL_law__2617 : decode cL_law_ 2617 = .ok (.iaload, 1) := by decide +kernel
theorem dL_law__2618 : decode cL_law_ 2618 = .ok (.aload_n 0, 1) := by decide +kernel
theorem dL_law__2619 : decode cL_law_ 2619 = .ok (.iload 4, 2) := by decide +kernel
theorem dL_law__2621 : decode cL_law_ 2621 = .ok (.iconst 2, 1) := by decide +kernel
theorem dL_law__2622 : decode cL_law_ 2622 = .ok (.iadd, 1) := by decide +kernel
theorem dL_law__2623 : decode cL_law_ 2623 = .ok (.iaload, 1) := by decide +kernel
theorem dL_law__2624 : decode cL_law_ 2624 = .ok (.aload_n 3, 1) := by decide +kernel
theorem dL_law__2625 : decode cL_law_ 2625 = .ok (.invokestatic 236, 3) := by decide +kernel
theorem dL_law__2628 : decode cL_law_ 2628 = .ok (.istore 5, 2) := by decide +kernel
theorem dL_law__2630 : decode cL_law_ 2630 = .ok (.aload_n 2, 1) := by decide +kernel
theorem dL_law__2631 : decode cL_law_ 2631 = .ok (.aload_n 0, 1) := by decide +kernel
theorem dL_law__2632 : decode cL_law_ 2632 = .ok (.iload 4, 2) := by decide +kernel
theorem dL_law__2634 : decode cL_law_ 2634 = .ok (.iconst 1, 1) := by decide +kernel
theorem dL_law__2635 : decode cL_law_ 2635 = .ok (.iadd, 1) := by decide +kernel
theorem dL_law__2636 : decode cL_law_ 2636 = .ok (.iaload, 1) := by decide +kernel
theorem dL_law__2637 : decode cL_law_ 2637 = .ok (.aload_n 0, 1) := by decide +kernel
theorem dL_law__2638 : decode cL_law_ 2638 = .ok (.iload 4, 2) := by decide +kernel
theorem dL_law__2640 : decode cL_law_ 2640 = .ok (.iconst 2, 1) := by decide +kernel
theorem dL_law__2641 : decode cL_law_ 2641 = .ok (.iadd, 1) := by decide +kernel
theorem dL_law__2642 : decode cL_law_ 2642 = .ok (.iaload, 1) := by decide +kernel
theorem dL_law__2643 : decode cL_law_ 2643 = .ok (.invokevirtual 238, 3) := by decide +kernel
theorem dL_law__2646 : decode cL_law_ 2646 = .ok (.istore 6, 2) := by decide +kernel
theorem dL_law__2648 : decode cL_law_ 2648 = .ok (.aload_n 2, 1) := by decide +kernel
theorem dL_law__2649 : decode cL_law_ 2649 = .ok (.invokevirtual 131, 3) := by decide +kernel
theorem dL_law__2652 : decode cL_law_ 2652 = .ok (.iload 5, 2) := by decide +kernel
theorem dL_law__2654 : decode cL_law_ 2654 = .ok (.if_icmp .eq 5, 3) := by decide +kernel
theorem dL_law__2659 : decode cL_law_ 2659 = .ok (.iload 5, 2) := by decide +kernel
theorem dL_law__2661 : decode cL_law_ 2661 = .ok (.ifCond .ne 15, 3) := by decide +kernel
theorem dL_law__2664 : decode cL_law_ 2664 = .ok (.aload_n 3, 1) := by decide +kernel
theorem dL_law__2665 : decode cL_law_ 2665 = .ok (.iconst 0, 1) := by decide +kernel
theorem dL_law__2666 : decode cL_law_ 2666 = .ok (.laload, 1) := by decide +kernel
theorem dL_law__2667 : decode cL_law_ 2667 = .ok (.iload 6, 2) := by decide +kernel
theorem dL_law__2669 : decode cL_law_ 2669 = .ok (.i2l, 1) := by decide +kernel
theorem dL_law__2670 : decode cL_law_ 2670 = .ok (.lcmp, 1) := by decide +kernel
theorem dL_law__2671 : decode cL_law_ 2671 = .ok (.ifCond .eq 5, 3) := by decide +kernel
theorem dL_law__2676 : decode cL_law_ 2676 = .ok (.goto 79, 3) := by decide +kernel
theorem dL_law__2679 : decode cL_law_ 2679 = .ok (.aload_n 1, 1) := by decide +kernel
theorem dL_law__2680 : decode cL_law_ 2680 = .ok (.invokevirtual 239, 3) := by decide +kernel
theorem dL_law__2683 : decode cL_law_ 2683 = .ok (.aload_n 2, 1) := by decide +kernel
theorem dL_law__2684 : decode cL_law_ 2684 = .ok (.invokevirtual 242, 3) := by decide +kernel
theorem dL_law__2687 : decode cL_law_ 2687 = .ok (.if_icmp .eq 68, 3) := by decide +kernel
set_option maxHeartbeats 4000000 in
set_option maxRecDepth 100000 in
theorem law_meant {p : Program} {e : Env} {s : State} {m : MethodId} {below : List Frame} {meth : Method} {c : Code} (l : Launch) (hl : l.stackTraces = false) {b : Nat} {xs : Nat → Int32} {D : va_G} {cy : Nat → ClassId} {sa : Nat → Nat} {A : Nat → Prop} (hAe : A = fun q => s.heap.size ≤ q) (C0 : lw_At p s m meth c b 10 xs) (hG : GC D cy sa s) (hT : TH A s s.heap) (h63 : xs 0 &&& 63 = 29) : W p l e room_1 s m #[Value.ref b] below meth c s.heap [] 0 0 (lw_Z below #[Value.ref b] s) (entryFrame m ([Value.ref b] : List Value).toArray 7) := by
  obtain ⟨hx, hb, hr, hml, hown0, hts0, hX, hbl, hlocks, hgv⟩ := id C0
  have hown : s.vm.findClass RL = some m.cls := hown0
  have hts := hts0
  have hA : ∀ q : Nat, s.heap.size ≤ q → A q := fun q h => by rw [hAe]; exact h
  have hbA : ¬ A b := by rw [hAe]; exact Nat.not_le.mpr hbl
  have hS : va_S A s.heap s.heap [] := va_S.rf
  have hP : va_P D vwCl [] s.heap := fun k q h => by simp at h
  have hD : va_D A [] := ⟨fun i j p q h => by simp at h, fun k q h => by simp at h⟩
  have hl0 := lv_entry ([.ref b]) (n := 7) (Nat.le_of_ble_eq_true rfl)
  rw [lg_entry_eq]
  generalize (lg_sl ([.ref b]) ++ List.replicate (7 - (lg_sl ([.ref b])).length) Slot.unset).toArray = ls at hl0 ⊢
  have hlv : lv_has ls 7 [(0, .ref b)] := hl0
  have cl8 := hts (.classLink RL 8 RX11) lwd_0
  have in11 := hts (.instantiable RX11 14) lwd_1
  have ini11 := hts (.initialized RX11) lwd_2
  have ini_RX11 := hts (.initialized RX11) lwd_2
  have ml117 := hts (.methodLink RL 117 yX11_init) lwd_3
  have im_X11_init := hts (.instanceMethod yX11_init) lwd_4
  have cl118 := hts (.classLink RL 118 RX12) lwd_5
  have in12 := hts (.instantiable RX12 38) lwd_6
  have ini12 := hts (.initialized RX12) lwd_7
  have ini_RX12 := hts (.initialized RX12) lwd_7
  have ml120 := hts (.methodLink RL 120 yX12_init) lwd_8
  have im_X12_init := hts (.instanceMethod yX12_init) lwd_9
  have ac2 := hts (.arrayClass .long) lwd_10
  refine va_new (ci := 11) (fs := [.null, .null, .null, .int 0, .int 0, .null, .null, .null, .null, .null, .int 0, .null, .null, .null]) (C := RX11) (T := TX11) (N := 14) hx hb hts inX11 tyX11 tyX11_ok hown cl8 in11 ini11 hG.1 hP hD hS hA rfl (by decide) (Nat.le_of_ble_eq_true rfl) (Nat.le_of_ble_eq_true rfl) dL_law__0 (fun q_1 H hP hD hS => ?_)
  have hP : va_P D vwCl [(q_1, .inr (11, [.null, .null, .null, .int 0, .int 0, .null, .null, .null, .null, .null, .int 0, .null, .null, .null]))] H := hP
  have hD : va_D A [(q_1, .inr (11, [.null, .null, .null, .int 0, .int 0, .null, .null, .null, .null, .null, .int 0, .null, .null, .null]))] := hD
  refine lv_dup hx hb dL_law__3 rfl ?_
  refine cj_v (wr := []) (va_runI (As := []) (rest := [.ref q_1]) ⟨hx, hb, hml, hown, hts⟩ (c_K_meant l hl D cy sa q_1 H.size) (cwI 0 hts gl_X11_init rfl rfl rfl ini_RX11 ml117 im_X11_init rfl (by decide +kernel) ⟨Nat.le_of_ble_eq_true rfl, Nat.le_of_ble_eq_true rfl⟩) ⟨pcW.blind, (pcW.mk hP hD hS hA hG hT [0] rfl (by decide))⟩ rfl rfl hlv.1 rfl (lv_room (Nat.le_of_ble_eq_true rfl)) dL_law__4 ⟨Nat.le_of_ble_eq_true rfl, Nat.le_of_ble_eq_true rfl⟩) hP hD hS hA [0] [] rfl rfl (by decide) (by decide) (fun u1 H locs hw1 hP hD hS => ?_)
  have hP : va_P D vwCl [(q_1, .inr (11, [.ref (u1.1 0), .ref (u1.1 1), .ref (u1.1 2), .int 0, .int 0, .ref (u1.1 5), .ref (u1.1 6), .ref (u1.1 7), .ref (u1.1 8), .ref (u1.1 9), .int 0, .ref (u1.1 11), .ref (u1.1 12), .ref (u1.1 13)])), ((u1.1 5), .inr (6, [.int 0, .int 0, .ref (u1.1 21), .ref (u1.1 22), .int 0, .int 0, .ref (u1.1 23), .int 0, .ref (u1.1 24), .int 0, .int 0, .ref (u1.1 25), .int 0, .ref (u1.1 26), .int 0, .int 0, .int 0, .int 0, .int 0])), ((u1.1 13), .inl (cy 0, 4, .inl (fun _ => 0)))] H := hP
  have hD : va_D A [(q_1, .inr (11, [.ref (u1.1 0), .ref (u1.1 1), .ref (u1.1 2), .int 0, .int 0, .ref (u1.1 5), .ref (u1.1 6), .ref (u1.1 7), .ref (u1.1 8), .ref (u1.1 9), .int 0, .ref (u1.1 11), .ref (u1.1 12), .ref (u1.1 13)])), ((u1.1 5), .inr (6, [.int 0, .int 0, .ref (u1.1 21), .ref (u1.1 22), .int 0, .int 0, .ref (u1.1 23), .int 0, .ref (u1.1 24), .int 0, .int 0, .ref (u1.1 25), .int 0, .ref (u1.1 26), .int 0, .int 0, .int 0, .int 0, .int 0])), ((u1.1 13), .inl (cy 0, 4, .inl (fun _ => 0)))] := hD
  refine lv_astore_n (lv' := [(1, .ref q_1), (0, .ref b)]) hx hb dL_law__7 rfl hlv (by decide) rfl (fun ls hlv => ?_)
  refine va_new (ci := 12) (fs := [.int 0, .null, .int 0, .int 0, .int 0, .int 0, .int 0, .int 0, .int 0, .null, .null, .null, .null, .null, .null, .null, .int 0, .int 0, .int 0, .null, .null, .null, .int 0, .null, .null, .null, .null, .null, .null, .int 0, .int 0, .int 0, .int 0, .null, .int 0, .null, .int 0, .int 0]) (C := RX12) (T := TX12) (N := 38) hx hb hts inX12 tyX12 tyX12_ok hown cl118 in12 ini12 hG.1 hP hD hS hA rfl (by decide) (Nat.le_of_ble_eq_true rfl) (Nat.le_of_ble_eq_true rfl) dL_law__8 (fun q_2 H hP hD hS => ?_)
  have hP : va_P D vwCl [(q_1, .inr (11, [.ref (u1.1 0), .ref (u1.1 1), .ref (u1.1 2), .int 0, .int 0, .ref (u1.1 5), .ref (u1.1 6), .ref (u1.1 7), .ref (u1.1 8), .ref (u1.1 9), .int 0, .ref (u1.1 11), .ref (u1.1 12), .ref (u1.1 13)])), ((u1.1 5), .inr (6, [.int 0, .int 0, .ref (u1.1 21), .ref (u1.1 22), .int 0, .int 0, .ref (u1.1 23), .int 0, .ref (u1.1 24), .int 0, .int 0, .ref (u1.1 25), .int 0, .ref (u1.1 26), .int 0, .int 0, .int 0, .int 0, .int 0])), ((u1.1 13), .inl (cy 0, 4, .inl (fun _ => 0))), (q_2, .inr (12, [.int 0, .null, .int 0, .int 0, .int 0, .int 0, .int 0, .int 0, .int 0, .null, .null, .null, .null, .null, .null, .null, .int 0, .int 0, .int 0, .null, .null, .null, .int 0, .null, .null, .null, .null, .null, .null, .int 0, .int 0, .int 0, .int 0, .null, .int 0, .null, .int 0, .int 0]))] H := hP
  have hD : va_D A [(q_1, .inr (11, [.ref (u1.1 0), .ref (u1.1 1), .ref (u1.1 2), .int 0, .int 0, .ref (u1.1 5), .ref (u1.1 6), .ref (u1.1 7), .ref (u1.1 8), .ref (u1.1 9), .int 0, .ref (u1.1 11), .ref (u1.1 12), .ref (u1.1 13)])), ((u1.1 5), .inr (6, [.int 0, .int 0, .ref (u1.1 21), .ref (u1.1 22), .int 0, .int 0, .ref (u1.1 23), .int 0, .ref (u1.1 24), .int 0, .int 0, .ref (u1.1 25), .int 0, .ref (u1.1 26), .int 0, .int 0, .int 0, .int 0, .int 0])), ((u1.1 13), .inl (cy 0, 4, .inl (fun _ => 0))), (q_2, .inr (12, [.int 0, .null, .int 0, .int 0, .int 0, .int 0, .int 0, .int 0, .int 0, .null, .null, .null, .null, .null, .null, .null, .int 0, .int 0, .int 0, .null, .null, .null, .int 0, .null, .null, .null, .null, .null, .null, .int 0, .int 0, .int 0, .int 0, .null, .int 0, .null, .int 0, .int 0]))] := hD
  refine lv_dup hx hb dL_law__11 rfl ?_
  refine cj_v (wr := [(q_1, .inr (11, [.ref (u1.1 0), .ref (u1.1 1), .ref (u1.1 2), .int 0, .int 0, .ref (u1.1 5), .ref (u1.1 6), .ref (u1.1 7), .ref (u1.1 8), .ref (u1.1 9), .int 0, .ref (u1.1 11), .ref (u1.1 12), .ref (u1.1 13)])), ((u1.1 5), .inr (6, [.int 0, .int 0, .ref (u1.1 21), .ref (u1.1 22), .int 0, .int 0, .ref (u1.1 23), .int 0, .ref (u1.1 24), .int 0, .int 0, .ref (u1.1 25), .int 0, .ref (u1.1 26), .int 0, .int 0, .int 0, .int 0, .int 0])), ((u1.1 13), .inl (cy 0, 4, .inl (fun _ => 0)))]) (va_runI (As := []) (rest := [.ref q_2]) ⟨hx, hb, hml, hown, hts⟩ (c_M_meant l hl D cy sa q_2 H.size) (cwI 0 hts gl_X12_init rfl rfl rfl ini_RX12 ml120 im_X12_init rfl (by decide +kernel) ⟨Nat.le_of_ble_eq_true rfl, Nat.le_of_ble_eq_true rfl⟩) ⟨pcW.blind, (pcW.mk hP hD hS hA hG hT [3] rfl (by decide))⟩ rfl rfl hlv.1 rfl (lv_room (Nat.le_of_ble_eq_true rfl)) dL_law__12 ⟨Nat.le_of_ble_eq_true rfl, Nat.le_of_ble_eq_true rfl⟩) hP hD hS hA [3] [0, 1, 2] rfl rfl (by decide) (by decide) (fun u2 H locs hw2 hP hD hS => ?_)
  have hP : va_P D vwCl [(q_1, .inr (11, [.ref (u1.1 0), .ref (u1.1 1), .ref (u1.1 2), .int 0, .int 0, .ref (u1.1 5), .ref (u1.1 6), .ref (u1.1 7), .ref (u1.1 8), .ref (u1.1 9), .int 0, .ref (u1.1 11), .ref (u1.1 12), .ref (u1.1 13)])), ((u1.1 5), .inr (6, [.int 0, .int 0, .ref (u1.1 21), .ref (u1.1 22), .int 0, .int 0, .ref (u1.1 23), .int 0, .ref (u1.1 24), .int 0, .int 0, .ref (u1.1 25), .int 0, .ref (u1.1 26), .int 0, .int 0, .int 0, .int 0, .int 0])), ((u1.1 13), .inl (cy 0, 4, .inl (fun _ => 0))), (q_2, .inr (12, [.int 0, .ref (u2.1 1), .int 0, .int 0, .int 0, .int 0, .int 0, .int 0, .int (-1), .ref (u2.1 9), .ref (u2.1 10), .ref (u2.1 11), .ref (u2.1 12), .ref (u2.1 13), .ref (u2.1 14), .ref (u2.1 15), .int 0, .int 0, .int 0, .ref (u2.1 19), .ref (u2.1 20), .ref (u2.1 21), .int 0, .ref (u2.1 23), .ref (u2.1 24), .ref (u2.1 25), .ref (u2.1 26), .ref (u2.1 27), .ref (u2.1 28), .int 0, .int 0, .int 0, .int 0, .ref (u2.1 33), .int (-1), .ref (u2.1 35), .int 0, .int 0])), ((u2.1 1), .inl (cy 0, 4, .inl (fun _ => 0))), ((u2.1 10), .inl (cy 0, 68, .inl (fun _ => 0)))] H := hP
  have hD : va_D A [(q_1, .inr (11, [.ref (u1.1 0), .ref (u1.1 1), .ref (u1.1 2), .int 0, .int 0, .ref (u1.1 5), .ref (u1.1 6), .ref (u1.1 7), .ref (u1.1 8), .ref (u1.1 9), .int 0, .ref (u1.1 11), .ref (u1.1 12), .ref (u1.1 13)])), ((u1.1 5), .inr (6, [.int 0, .int 0, .ref (u1.1 21), .ref (u1.1 22), .int 0, .int 0, .ref (u1.1 23), .int 0, .ref (u1.1 24), .int 0, .int 0, .ref (u1.1 25), .int 0, .ref (u1.1 26), .int 0, .int 0, .int 0, .int 0, .int 0])), ((u1.1 13), .inl (cy 0, 4, .inl (fun _ => 0))), (q_2, .inr (12, [.int 0, .ref (u2.1 1), .int 0, .int 0, .int 0, .int 0, .int 0, .int 0, .int (-1), .ref (u2.1 9), .ref (u2.1 10), .ref (u2.1 11), .ref (u2.1 12), .ref (u2.1 13), .ref (u2.1 14), .ref (u2.1 15), .int 0, .int 0, .int 0, .ref (u2.1 19), .ref (u2.1 20), .ref (u2.1 21), .int 0, .ref (u2.1 23), .ref (u2.1 24), .ref (u2.1 25), .ref (u2.1 26), .ref (u2.1 27), .ref (u2.1 28), .int 0, .int 0, .int 0, .int 0, .ref (u2.1 33), .int (-1), .ref (u2.1 35), .int 0, .int 0])), ((u2.1 1), .inl (cy 0, 4, .inl (fun _ => 0))), ((u2.1 10), .inl (cy 0, 68, .inl (fun _ => 0)))] := hD
  refine lv_astore_n (lv' := [(2, .ref q_2), (1, .ref q_1), (0, .ref b)]) hx hb dL_law__15 rfl hlv (by decide) rfl (fun ls hlv => ?_)
  refine lv_iconst (v := 1) hx hb dL_law__16 (by decide) ?_
  refine nw_a (atype := .long) (cy := cy) (a0 := (1, .inr (.inl (fun _ => 0)))) (N' := 1) hx hb ac2 (ty := .long) rfl 2 rfl (fun C h => nomatch h) hG.1 hP hD hS hA (fun cA => rfl) (by decide) (by decide) (Nat.le_of_ble_eq_true rfl) (Nat.le_of_ble_eq_true rfl) (Nat.le_of_ble_eq_true rfl) dL_law__17 (fun q_3 H hP hD hS => ?_)
  have hP : va_P D vwCl [(q_1, .inr (11, [.ref (u1.1 0), .ref (u1.1 1), .ref (u1.1 2), .int 0, .int 0, .ref (u1.1 5), .ref (u1.1 6), .ref (u1.1 7), .ref (u1.1 8), .ref (u1.1 9), .int 0, .ref (u1.1 11), .ref (u1.1 12), .ref (u1.1 13)])), ((u1.1 5), .inr (6, [.int 0, .int 0, .ref (u1.1 21), .ref (u1.1 22), .int 0, .int 0, .ref (u1.1 23), .int 0, .ref (u1.1 24), .int 0, .int 0, .ref (u1.1 25), .int 0, .ref (u1.1 26), .int 0, .int 0, .int 0, .int 0, .int 0])), ((u1.1 13), .inl (cy 0, 4, .inl (fun _ => 0))), (q_2, .inr (12, [.int 0, .ref (u2.1 1), .int 0, .int 0, .int 0, .int 0, .int 0, .int 0, .int (-1), .ref (u2.1 9), .ref (u2.1 10), .ref (u2.1 11), .ref (u2.1 12), .ref (u2.1 13), .ref (u2.1 14), .ref (u2.1 15), .int 0, .int 0, .int 0, .ref (u2.1 19), .ref (u2.1 20), .ref (u2.1 21), .int 0, .ref (u2.1 23), .ref (u2.1 24), .ref (u2.1 25), .ref (u2.1 26), .ref (u2.1 27), .ref (u2.1 28), .int 0, .int 0, .int 0, .int 0, .ref (u2.1 33), .int (-1), .ref (u2.1 35), .int 0, .int 0])), ((u2.1 1), .inl (cy 0, 4, .inl (fun _ => 0))), ((u2.1 10), .inl (cy 0, 68, .inl (fun _ => 0))), (q_3, .inl (cy 2, 1, .inr (.inl (fun _ => 0))))] H := hP
  have hD : va_D A [(q_1, .inr (11, [.ref (u1.1 0), .ref (u1.1 1), .ref (u1.1 2), .int 0, .int 0, .ref (u1.1 5), .ref (u1.1 6), .ref (u1.1 7), .ref (u1.1 8), .ref (u1.1 9), .int 0, .ref (u1.1 11), .ref (u1.1 12), .ref (u1.1 13)])), ((u1.1 5), .inr (6, [.int 0, .int 0, .ref (u1.1 21), .ref (u1.1 22), .int 0, .int 0, .ref (u1.1 23), .int 0, .ref (u1.1 24), .int 0, .int 0, .ref (u1.1 25), .int 0, .ref (u1.1 26), .int 0, .int 0, .int 0, .int 0, .int 0])), ((u1.1 13), .inl (cy 0, 4, .inl (fun _ => 0))), (q_2, .inr (12, [.int 0, .ref (u2.1 1), .int 0, .int 0, .int 0, .int 0, .int 0, .int 0, .int (-1), .ref (u2.1 9), .ref (u2.1 10), .ref (u2.1 11), .ref (u2.1 12), .ref (u2.1 13), .ref (u2.1 14), .ref (u2.1 15), .int 0, .int 0, .int 0, .ref (u2.1 19), .ref (u2.1 20), .ref (u2.1 21), .int 0, .ref (u2.1 23), .ref (u2.1 24), .ref (u2.1 25), .ref (u2.1 26), .ref (u2.1 27), .ref (u2.1 28), .int 0, .int 0, .int 0, .int 0, .ref (u2.1 33), .int (-1), .ref (u2.1 35), .int 0, .int 0])), ((u2.1 1), .inl (cy 0, 4, .inl (fun _ => 0))), ((u2.1 10), .inl (cy 0, 68, .inl (fun _ => 0))), (q_3, .inl (cy 2, 1, .inr (.inl (fun _ => 0))))] := hD
  refine lv_astore_n (lv' := [(3, .ref q_3), (2, .ref q_2), (1, .ref q_1), (0, .ref b)]) hx hb dL_law__19 rfl hlv (by decide) rfl (fun ls hlv => ?_)
  refine lv_iconst (v := 0) hx hb dL_law__20 (by decide) ?_
  refine lv_istore (lv' := [(4, .int 0), (3, .ref q_3), (2, .ref q_2), (1, .ref q_1), (0, .ref b)]) hx hb dL_law__21 hlv (by decide) rfl (fun ls hlv => ?_)
  refine lv_iload hx hb dL_law__23 (lv_at hlv 0 rfl) ?_
  refine lv_aload_n hx hb dL_law__25 rfl (lv_at hlv 4 rfl) ?_
  refine va_slen hx hb hX hbl hbA hS dL_law__26 ?_
  refine lt_i (y := 10) (by decide) ?_
  refine lv_bipush (v := 10) hx hb dL_law__27 (by decide) ?_
  refine lv_isub hx hb dL_law__29 ?_
  refine lt_i (y := 0) (by decide) ?_
  refine lv_icmp_gt (tgt := 2761) hx hb dL_law__30 (by decide) (fun c => absurd c (by decide)) (fun _ => ?_)
  refine lv_aload_n hx hb dL_law__33 rfl (lv_at hlv 4 rfl) ?_
  refine lv_iload hx hb dL_law__34 (lv_at hlv 0 rfl) ?_
  refine va_sld hx hb hX hbl hbA hS (vpd (by decide)) dL_law__36 ?_
  refine lt_i (y := xs 0) rfl ?_
  refine lv_bipush (v := 63) hx hb dL_law__37 (by decide) ?_
  refine lv_iand hx hb dL_law__39 ?_
  refine lt_i (y := 29) h63 ?_
  refine lv_tableIn (tgt := 2287) hx hb dL_law__40 (by decide) (by decide) rfl (by decide) ?_
  refine lv_aload_n hx hb dL_law__2287 rfl (lv_at hlv 3 rfl) ?_
  refine lv_aload_n hx hb dL_law__2288 rfl (lv_at hlv 4 rfl) ?_
  refine lv_iload hx hb dL_law__2289 (lv_at hlv 0 rfl) ?_
  refine lv_iconst (v := 1) hx hb dL_law__2291 (by decide) ?_
  refine lv_iadd hx hb dL_law__2292 ?_
  refine lt_i (y := 1) (by decide) ?_
  refine va_sld hx hb hX hbl hbA hS (vpd (by decide)) dL_law__2293 ?_
  refine lt_i (y := xs 1) rfl ?_
  refine lv_aload_n hx hb dL_law__2294 rfl (lv_at hlv 4 rfl) ?_
  refine lv_iload hx hb dL_law__2295 (lv_at hlv 0 rfl) ?_
  refine lv_iconst (v := 2) hx hb dL_law__2297 (by decide) ?_
  refine lv_iadd hx hb dL_law__2298 ?_
  refine lt_i (y := 2) (by decide) ?_
  refine va_sld hx hb hX hbl hbA hS (vpd (by decide)) dL_law__2299 ?_
  refine lt_i (y := xs 2) rfl ?_
  refine lv_aload_n hx hb dL_law__2300 rfl (lv_at hlv 4 rfl) ?_
  refine lv_iload hx hb dL_law__2301 (lv_at hlv 0 rfl) ?_
  refine lv_iconst (v := 3) hx hb dL_law__2303 (by decide) ?_
  refine lv_iadd hx hb dL_law__2304 ?_
  refine lt_i (y := 3) (by decide) ?_
  refine va_sld hx hb hX hbl hbA hS (vpd (by decide)) dL_law__2305 ?_
  refine lt_i (y := xs 3) rfl ?_
  refine lv_aload_n hx hb dL_law__2306 rfl (lv_at hlv 4 rfl) ?_
  refine lv_iload hx hb dL_law__2307 (lv_at hlv 0 rfl) ?_
  refine lv_iconst (v := 4) hx hb dL_law__2309 (by decide) ?_
  refine lv_iadd hx hb dL_law__2310 ?_
  refine lt_i (y := 4) (by decide) ?_
  refine va_sld hx hb hX hbl hbA hS (vpd (by decide)) dL_law__2311 ?_
  refine lt_i (y := xs 4) rfl ?_
  refine lv_aload_n hx hb dL_law__2312 rfl (lv_at hlv 4 rfl) ?_
  refine lv_iload hx hb dL_law__2313 (lv_at hlv 0 rfl) ?_
  refine lv_iconst (v := 5) hx hb dL_law__2315 (by decide) ?_
  refine lv_iadd hx hb dL_law__2316 ?_
  refine lt_i (y := 5) (by decide) ?_
  refine va_sld hx hb hX hbl hbA hS (vpd (by decide)) dL_law__2317 ?_
  refine lt_i (y := xs 5) rfl ?_
  refine lv_aload_n hx hb dL_law__2318 rfl (lv_at hlv 4 rfl) ?_
  refine lv_iload hx hb dL_law__2319 (lv_at hlv 0 rfl) ?_
  refine lv_bipush (v := 6) hx hb dL_law__2321 (by decide) ?_
  refine lv_iadd hx hb dL_law__2323 ?_
  refine lt_i (y := 6) (by decide) ?_
  refine va_sld hx hb hX hbl hbA hS (vpd (by decide)) dL_law__2324 ?_
  refine lt_i (y := xs 6) rfl ?_
  refine lv_aload_n hx hb dL_law__2325 rfl (lv_at hlv 4 rfl) ?_
  refine lv_iload hx hb dL_law__2326 (lv_at hlv 0 rfl) ?_
  refine lv_bipush (v := 7) hx hb dL_law__2328 (by decide) ?_
  refine lv_iadd hx hb dL_law__2330 ?_
  refine lt_i (y := 7) (by decide) ?_
  refine va_sld hx hb hX hbl hbA hS (vpd (by decide)) dL_law__2331 ?_
  refine lt_i (y := xs 7) rfl ?_
  refine lv_aload_n hx hb dL_law__2332 rfl (lv_at hlv 1 rfl) ?_
  refine cj_i (wr := [(q_2, .inr (12, [.int 0, .ref (u2.1 1), .int 0, .int 0, .int 0, .int 0, .int 0, .int 0, .int (-1), .ref (u2.1 9), .ref (u2.1 10), .ref (u2.1 11), .ref (u2.1 12), .ref (u2.1 13), .ref (u2.1 14), .ref (u2.1 15), .int 0, .int 0, .int 0, .ref (u2.1 19), .ref (u2.1 20), .ref (u2.1 21), .int 0, .ref (u2.1 23), .ref (u2.1 24), .ref (u2.1 25), .ref (u2.1 26), .ref (u2.1 27), .ref (u2.1 28), .int 0, .int 0, .int 0, .int 0, .ref (u2.1 33), .int (-1), .ref (u2.1 35), .int 0, .int 0])), ((u2.1 1), .inl (cy 0, 4, .inl (fun _ => 0))), ((u2.1 10), .inl (cy 0, 68, .inl (fun _ => 0)))]) (vx_runSW (As := [.ref q_1, .int (xs 1), .int (xs 2), .int (xs 3), .int (xs 4), .int (xs 5), .int (xs 6), .int (xs 7), .ref q_3]) (rest := []) ⟨hx, hb, hml, hown, hts⟩ (w_meant l hl D cy sa q_1 u1.1 (xs 1) (xs 2) (xs 3) (xs 4) (xs 5) (xs 6) (xs 7) q_3 H.size) (vx_cwSW 9 hts gl_w_meant rfl rfl rfl (by decide +kernel) ⟨Nat.le_of_ble_eq_true rfl, Nat.le_of_ble_eq_true rfl⟩) ⟨pcW.blind, (pcW.mk hP hD hS hA hG hT [0, 1, 2, 6] rfl (by decide))⟩ rfl rfl hlv.1 rfl (lv_room (Nat.le_of_ble_eq_true rfl)) dL_law__2333 ⟨Nat.le_of_ble_eq_true rfl, Nat.le_of_ble_eq_true rfl⟩) hP hD hS hA [0, 1, 2, 6] [3, 4, 5] rfl rfl (by decide) (by decide) (fun r3 u3 H locs hw3 hP hD hS => ?_)
  obtain rfl := hw3
  have hP : va_P D vwCl [(q_2, .inr (12, [.int 0, .ref (u2.1 1), .int 0, .int 0, .int 0, .int 0, .int 0, .int 0, .int (-1), .ref (u2.1 9), .ref (u2.1 10), .ref (u2.1 11), .ref (u2.1 12), .ref (u2.1 13), .ref (u2.1 14), .ref (u2.1 15), .int 0, .int 0, .int 0, .ref (u2.1 19), .ref (u2.1 20), .ref (u2.1 21), .int 0, .ref (u2.1 23), .ref (u2.1 24), .ref (u2.1 25), .ref (u2.1 26), .ref (u2.1 27), .ref (u2.1 28), .int 0, .int 0, .int 0, .int 0, .ref (u2.1 33), .int (-1), .ref (u2.1 35), .int 0, .int 0])), ((u2.1 1), .inl (cy 0, 4, .inl (fun _ => 0))), ((u2.1 10), .inl (cy 0, 68, .inl (fun _ => 0))), (q_3, .inl (cy 2, 1, .inr (.inl (fun _ => (u3.2.1 0 : Int32).toInt64))))] H := hP
  have hD : va_D A [(q_2, .inr (12, [.int 0, .ref (u2.1 1), .int 0, .int 0, .int 0, .int 0, .int 0, .int 0, .int (-1), .ref (u2.1 9), .ref (u2.1 10), .ref (u2.1 11), .ref (u2.1 12), .ref (u2.1 13), .ref (u2.1 14), .ref (u2.1 15), .int 0, .int 0, .int 0, .ref (u2.1 19), .ref (u2.1 20), .ref (u2.1 21), .int 0, .ref (u2.1 23), .ref (u2.1 24), .ref (u2.1 25), .ref (u2.1 26), .ref (u2.1 27), .ref (u2.1 28), .int 0, .int 0, .int 0, .int 0, .ref (u2.1 33), .int (-1), .ref (u2.1 35), .int 0, .int 0])), ((u2.1 1), .inl (cy 0, 4, .inl (fun _ => 0))), ((u2.1 10), .inl (cy 0, 68, .inl (fun _ => 0))), (q_3, .inl (cy 2, 1, .inr (.inl (fun _ => (u3.2.1 0 : Int32).toInt64))))] := hD
  refine lv_istore (lv' := [(5, .int 1), (4, .int 0), (3, .ref q_3), (2, .ref q_2), (1, .ref q_1), (0, .ref b)]) hx hb dL_law__2336 hlv (by decide) rfl (fun ls hlv => ?_)
  refine lv_aload_n hx hb dL_law__2338 rfl (lv_at hlv 3 rfl) ?_
  refine lv_aload_n hx hb dL_law__2339 rfl (lv_at hlv 5 rfl) ?_
  refine lv_iload hx hb dL_law__2340 (lv_at hlv 1 rfl) ?_
  refine lv_iconst (v := 1) hx hb dL_law__2342 (by decide) ?_
  refine lv_iadd hx hb dL_law__2343 ?_
  refine lt_i (y := 1) (by decide) ?_
  refine va_sld hx hb hX hbl hbA hS (vpd (by decide)) dL_law__2344 ?_
  refine lt_i (y := xs 1) rfl ?_
  refine lv_aload_n hx hb dL_law__2345 rfl (lv_at hlv 5 rfl) ?_
  refine lv_iload hx hb dL_law__2346 (lv_at hlv 1 rfl) ?_
  refine lv_iconst (v := 2) hx hb dL_law__2348 (by decide) ?_
  refine lv_iadd hx hb dL_law__2349 ?_
  refine lt_i (y := 2) (by decide) ?_
  refine va_sld hx hb hX hbl hbA hS (vpd (by decide)) dL_law__2350 ?_
  refine lt_i (y := xs 2) rfl ?_
  refine lv_aload_n hx hb dL_law__2351 rfl (lv_at hlv 5 rfl) ?_
  refine lv_iload hx hb dL_law__2352 (lv_at hlv 1 rfl) ?_
  refine lv_iconst (v := 3) hx hb dL_law__2354 (by decide) ?_
  refine lv_iadd hx hb dL_law__2355 ?_
  refine lt_i (y := 3) (by decide) ?_
  refine va_sld hx hb hX hbl hbA hS (vpd (by decide)) dL_law__2356 ?_
  refine lt_i (y := xs 3) rfl ?_
  refine lv_aload_n hx hb dL_law__2357 rfl (lv_at hlv 5 rfl) ?_
  refine lv_iload hx hb dL_law__2358 (lv_at hlv 1 rfl) ?_
  refine lv_iconst (v := 4) hx hb dL_law__2360 (by decide) ?_
  refine lv_iadd hx hb dL_law__2361 ?_
  refine lt_i (y := 4) (by decide) ?_
  refine va_sld hx hb hX hbl hbA hS (vpd (by decide)) dL_law__2362 ?_
  refine lt_i (y := xs 4) rfl ?_
  refine lv_aload_n hx hb dL_law__2363 rfl (lv_at hlv 5 rfl) ?_
  refine lv_iload hx hb dL_law__2364 (lv_at hlv 1 rfl) ?_
  refine lv_iconst (v := 5) hx hb dL_law__2366 (by decide) ?_
  refine lv_iadd hx hb dL_law__2367 ?_
  refine lt_i (y := 5) (by decide) ?_
  refine va_sld hx hb hX hbl hbA hS (vpd (by decide)) dL_law__2368 ?_
  refine lt_i (y := xs 5) rfl ?_
  refine lv_aload_n hx hb dL_law__2369 rfl (lv_at hlv 5 rfl) ?_
  refine lv_iload hx hb dL_law__2370 (lv_at hlv 1 rfl) ?_
  refine lv_bipush (v := 6) hx hb dL_law__2372 (by decide) ?_
  refine lv_iadd hx hb dL_law__2374 ?_
  refine lt_i (y := 6) (by decide) ?_
  refine va_sld hx hb hX hbl hbA hS (vpd (by decide)) dL_law__2375 ?_
  refine lt_i (y := xs 6) rfl ?_
  refine lv_aload_n hx hb dL_law__2376 rfl (lv_at hlv 5 rfl) ?_
  refine lv_iload hx hb dL_law__2377 (lv_at hlv 1 rfl) ?_
  refine lv_bipush (v := 7) hx hb dL_law__2379 (by decide) ?_
  refine lv_iadd hx hb dL_law__2381 ?_
  refine lt_i (y := 7) (by decide) ?_
  refine va_sld hx hb hX hbl hbA hS (vpd (by decide)) dL_law__2382 ?_
  refine lt_i (y := xs 7) rfl ?_
  refine cj_i (wr := [(q_3, .inl (cy 2, 1, .inr (.inl (fun _ => (u3.2.1 0 : Int32).toInt64))))]) (va_runV (As := [.int (xs 1), .int (xs 2), .int (xs 3), .int (xs 4), .int (xs 5), .int (xs 6), .int (xs 7)]) (rest := []) ⟨hx, hb, hml, hown, hts⟩ (m_meant l hl D cy sa q_2 u2.1 (xs 1) (xs 2) (xs 3) (xs 4) (xs 5) (xs 6) (xs 7) H.size) (cwV 7 hts gl_m_meant rfl rfl rfl (by decide +kernel) ⟨Nat.le_of_ble_eq_true rfl, Nat.le_of_ble_eq_true rfl⟩) ⟨pcW.blind, (va_recv hG.1 hP (ci := 12) (q0 := 0) rfl rfl), (pcW.mk hP hD hS hA hG hT [0, 1, 2] rfl (by decide))⟩ rfl rfl hlv.1 rfl (lv_room (Nat.le_of_ble_eq_true rfl)) dL_law__2383 ⟨Nat.le_of_ble_eq_true rfl, Nat.le_of_ble_eq_true rfl⟩) hP hD hS hA [0, 1, 2] [3] rfl rfl (by decide) (by decide) (fun r4 u4 H locs hw4 hP hD hS => ?_)
  obtain rfl := hw4
  have hP : va_P D vwCl [(q_3, .inl (cy 2, 1, .inr (.inl (fun _ => (u3.2.1 0 : Int32).toInt64)))), (q_2, .inr (12, [.int 1, .ref (u2.1 1), .int 0, .int 0, .int 0, .int 0, .int 0, .int 0, .int (-1), .ref (u2.1 9), .ref (u2.1 10), .ref (u2.1 11), .ref (u2.1 12), .ref (u2.1 13), .ref (u2.1 14), .ref (u2.1 15), .int 0, .int 0, .int 0, .ref (u2.1 19), .ref (u2.1 20), .ref (u2.1 21), .int 0, .ref (u2.1 23), .ref (u2.1 24), .ref (u2.1 25), .ref (u2.1 26), .ref (u2.1 27), .ref (u2.1 28), .int 0, .int 0, .int 0, .int 0, .ref (u2.1 33), .int (-1), .ref (u2.1 35), .int 0, .int 0]))] H := hP
  have hD : va_D A [(q_3, .inl (cy 2, 1, .inr (.inl (fun _ => (u3.2.1 0 : Int32).toInt64)))), (q_2, .inr (12, [.int 1, .ref (u2.1 1), .int 0, .int 0, .int 0, .int 0, .int 0, .int 0, .int (-1), .ref (u2.1 9), .ref (u2.1 10), .ref (u2.1 11), .ref (u2.1 12), .ref (u2.1 13), .ref (u2.1 14), .ref (u2.1 15), .int 0, .int 0, .int 0, .ref (u2.1 19), .ref (u2.1 20), .ref (u2.1 21), .int 0, .ref (u2.1 23), .ref (u2.1 24), .ref (u2.1 25), .ref (u2.1 26), .ref (u2.1 27), .ref (u2.1 28), .int 0, .int 0, .int 0, .int 0, .ref (u2.1 33), .int (-1), .ref (u2.1 35), .int 0, .int 0]))] := hD
  refine lv_istore (lv' := [(6, .int 0), (5, .int 1), (4, .int 0), (3, .ref q_3), (2, .ref q_2), (1, .ref q_1), (0, .ref b)]) hx hb dL_law__2386 hlv (by decide) rfl (fun ls hlv => ?_)
  refine lv_aload_n hx hb dL_law__2388 rfl (lv_at hlv 4 rfl) ?_
  refine cj_i (wr := [(q_3, .inl (cy 2, 1, .inr (.inl (fun _ => (u3.2.1 0 : Int32).toInt64))))]) (va_runV (As := []) (rest := []) ⟨hx, hb, hml, hown, hts⟩ (c_thrown l hl D cy sa q_2 u2.1 1 0 0 0 0 0 0 (-1) 0 0 0 0 0 0 0 0 (-1) 0 0 H.size) (cwV 0 hts gl_c_thrown rfl rfl rfl (by decide +kernel) ⟨Nat.le_of_ble_eq_true rfl, Nat.le_of_ble_eq_true rfl⟩) ⟨pcW.blind, (va_recv hG.1 hP (ci := 12) (q0 := 1) rfl rfl), (pcW.mk hP hD hS hA hG hT [1] rfl (by decide))⟩ rfl rfl hlv.1 rfl (lv_room (Nat.le_of_ble_eq_true rfl)) dL_law__2389 ⟨Nat.le_of_ble_eq_true rfl, Nat.le_of_ble_eq_true rfl⟩) hP hD hS hA [1] [0] rfl rfl (by decide) (by decide) (fun r5 u5 H locs hw5 hP hD hS => ?_)
  obtain rfl := hw5
  have hP : va_P D vwCl [(q_3, .inl (cy 2, 1, .inr (.inl (fun _ => (u3.2.1 0 : Int32).toInt64))))] H := hP
  have hD : va_D A [(q_3, .inl (cy 2, 1, .inr (.inl (fun _ => (u3.2.1 0 : Int32).toInt64))))] := hD
  refine lv_iload hx hb dL_law__2392 (lv_at hlv 1 rfl) ?_
  refine lv_icmp_eq (tgt := 2399) hx hb dL_law__2394 (by decide) (fun _ => ?_) (fun c => absurd (by decide) c)
  refine lv_iload hx hb dL_law__2399 (lv_at hlv 1 rfl) ?_
  refine lv_if_ne (tgt := 2416) hx hb dL_law__2401 (by decide) (fun _ => ?_) (fun c => absurd c (by decide))
  refine lv_goto (tgt := 2755) hx hb dL_law__2416 (by decide) ?_
  refine lv_iinc (v := 10) (lv' := [(4, .int 10), (6, .int 0), (5, .int 1), (3, .ref q_3), (2, .ref q_2), (1, .ref q_1), (0, .ref b)]) hx hb dL_law__2755 hlv (k := 2) rfl (by decide) (by decide) rfl (fun ls hlv => ?_)
  refine lv_goto (tgt := 23) hx hb dL_law__2758 (by decide) ?_
  refine lv_iload hx hb dL_law__23 (lv_at hlv 0 rfl) ?_
  refine lv_aload_n hx hb dL_law__25 rfl (lv_at hlv 6 rfl) ?_
  refine va_slen hx hb hX hbl hbA hS dL_law__26 ?_
  refine lt_i (y := 10) (by decide) ?_
  refine lv_bipush (v := 10) hx hb dL_law__27 (by decide) ?_
  refine lv_isub hx hb dL_law__29 ?_
  refine lt_i (y := 0) (by decide) ?_
  refine lv_icmp_gt (tgt := 2761) hx hb dL_law__30 (by decide) (fun _ => ?_) (fun c => absurd (by decide) c)
  refine lv_iconst (v := 1) hx hb dL_law__2761 (by decide) ?_
  refine va_forget (fun q hq => by have h9 := hS.2.2 q hq; rw [hAe] at h9; exact h9) ?_
  refine W.widen (k := 600002) (n := 7302232) (Nat.le_of_ble_eq_true rfl) (Nat.le_of_ble_eq_true rfl) ?_
  exact lw_ret hx hb hr hlocks dL_law__2762
set_option maxHeartbeats 4000000 in
set_option maxRecDepth 100000 in
theorem law_dip {p : Program} {e : Env} {s : State} {m : MethodId} {below : List Frame} {meth : Method} {c : Code} (l : Launch) (hl : l.stackTraces = false) {b : Nat} {xs : Nat → Int32} {D : va_G} {cy : Nat → ClassId} {sa : Nat → Nat} {A : Nat → Prop} (hAe : A = fun q => s.heap.size ≤ q) (C0 : lw_At p s m meth c b 10 xs) (hG : GC D cy sa s) (hT : TH A s s.heap) (h63 : xs 0 &&& 63 = 30) : W p l e room_1 s m #[Value.ref b] below meth c s.heap [] 0 0 (lw_Z below #[Value.ref b] s) (entryFrame m ([Value.ref b] : List Value).toArray 7) := by
  obtain ⟨hx, hb, hr, hml, hown0, hts0, hX, hbl, hlocks, hgv⟩ := id C0
  have hown : s.vm.findClass RL = some m.cls := hown0
  have hts := hts0
  have hA : ∀ q : Nat, s.heap.size ≤ q → A q := fun q h => by rw [hAe]; exact h
  have hbA : ¬ A b := by rw [hAe]; exact Nat.not_le.mpr hbl
  have hS : va_S A s.heap s.heap [] := va_S.rf
  have hP : va_P D vwCl [] s.heap := fun k q h => by simp at h
  have hD : va_D A [] := ⟨fun i j p q h => by simp at h, fun k q h => by simp at h⟩
  have hl0 := lv_entry ([.ref b]) (n := 7) (Nat.le_of_ble_eq_true rfl)
  rw [lg_entry_eq]
  generalize (lg_sl ([.ref b]) ++ List.replicate (7 - (lg_sl ([.ref b])).length) Slot.unset).toArray = ls at hl0 ⊢
  have hlv : lv_has ls 7 [(0, .ref b)] := hl0
  have cl8 := hts (.classLink RL 8 RX11) lwd_0
  have in11 := hts (.instantiable RX11 14) lwd_1
  have ini11 := hts (.initialized RX11) lwd_2
  have ini_RX11 := hts (.initialized RX11) lwd_2
  have ml117 := hts (.methodLink RL 117 yX11_init) lwd_3
  have im_X11_init := hts (.instanceMethod yX11_init) lwd_4
  have cl118 := hts (.classLink RL 118 RX12) lwd_5
  have in12 := hts (.instantiable RX12 38) lwd_6
  have ini12 := hts (.initialized RX12) lwd_7
  have ini_RX12 := hts (.initialized RX12) lwd_7
  have ml120 := hts (.methodLink RL 120 yX12_init) lwd_8
  have im_X12_init := hts (.instanceMethod yX12_init) lwd_9
  have ac2 := hts (.arrayClass .long) lwd_10
  refine va_new (ci := 11) (fs := [.null, .null, .null, .int 0, .int 0, .null, .null, .null, .null, .null, .int 0, .null, .null, .null]) (C := RX11) (T := TX11) (N := 14) hx hb hts inX11 tyX11 tyX11_ok hown cl8 in11 ini11 hG.1 hP hD hS hA rfl (by decide) (Nat.le_of_ble_eq_true rfl) (Nat.le_of_ble_eq_true rfl) dL_law__0 (fun q_1 H hP hD hS => ?_)
  have hP : va_P D vwCl [(q_1, .inr (11, [.null, .null, .null, .int 0, .int 0, .null, .null, .null, .null, .null, .int 0, .null, .null, .null]))] H := hP
  have hD : va_D A [(q_1, .inr (11, [.null, .null, .null, .int 0, .int 0, .null, .null, .null, .null, .null, .int 0, .null, .null, .null]))] := hD
  refine lv_dup hx hb dL_law__3 rfl ?_
  refine cj_v (wr := []) (va_runI (As := []) (rest := [.ref q_1]) ⟨hx, hb, hml, hown, hts⟩ (c_K_dip l hl D cy sa q_1 H.size) (cwI 0 hts gl_X11_init rfl rfl rfl ini_RX11 ml117 im_X11_init rfl (by decide +kernel) ⟨Nat.le_of_ble_eq_true rfl, Nat.le_of_ble_eq_true rfl⟩) ⟨pcW.blind, (pcW.mk hP hD hS hA hG hT [0] rfl (by decide))⟩ rfl rfl hlv.1 rfl (lv_room (Nat.le_of_ble_eq_true rfl)) dL_law__4 ⟨Nat.le_of_ble_eq_true rfl, Nat.le_of_ble_eq_true rfl⟩) hP hD hS hA [0] [] rfl rfl (by decide) (by decide) (fun u1 H locs hw1 hP hD hS => ?_)
  have hP : va_P D vwCl [(q_1, .inr (11, [.ref (u1.1 0), .ref (u1.1 1), .ref (u1.1 2), .int 0, .int 0, .ref (u1.1 5), .ref (u1.1 6), .ref (u1.1 7), .ref (u1.1 8), .ref (u1.1 9), .int 0, .ref (u1.1 11), .ref (u1.1 12), .ref (u1.1 13)])), ((u1.1 7), .inr (4, [.int 0, .ref (u1.1 41), .int 0, .ref (u1.1 42), .ref (u1.1 43)])), ((u1.1 42), .inl (cy 0, 27, .inl (fun _ => 0))), ((u1.1 13), .inl (cy 0, 4, .inl (fun _ => 0)))] H := hP
  have hD : va_D A [(q_1, .inr (11, [.ref (u1.1 0), .ref (u1.1 1), .ref (u1.1 2), .int 0, .int 0, .ref (u1.1 5), .ref (u1.1 6), .ref (u1.1 7), .ref (u1.1 8), .ref (u1.1 9), .int 0, .ref (u1.1 11), .ref (u1.1 12), .ref (u1.1 13)])), ((u1.1 7), .inr (4, [.int 0, .ref (u1.1 41), .int 0, .ref (u1.1 42), .ref (u1.1 43)])), ((u1.1 42), .inl (cy 0, 27, .inl (fun _ => 0))), ((u1.1 13), .inl (cy 0, 4, .inl (fun _ => 0)))] := hD
  refine lv_astore_n (lv' := [(1, .ref q_1), (0, .ref b)]) hx hb dL_law__7 rfl hlv (by decide) rfl (fun ls hlv => ?_)
  refine va_new (ci := 12) (fs := [.int 0, .null, .int 0, .int 0, .int 0, .int 0, .int 0, .int 0, .int 0, .null, .null, .null, .null, .null, .null, .null, .int 0, .int 0, .int 0, .null, .null, .null, .int 0, .null, .null, .null, .null, .null, .null, .int 0, .int 0, .int 0, .int 0, .null, .int 0, .null, .int 0, .int 0]) (C := RX12) (T := TX12) (N := 38) hx hb hts inX12 tyX12 tyX12_ok hown cl118 in12 ini12 hG.1 hP hD hS hA rfl (by decide) (Nat.le_of_ble_eq_true rfl) (Nat.le_of_ble_eq_true rfl) dL_law__8 (fun q_2 H hP hD hS => ?_)
  have hP : va_P D vwCl [(q_1, .inr (11, [.ref (u1.1 0), .ref (u1.1 1), .ref (u1.1 2), .int 0, .int 0, .ref (u1.1 5), .ref (u1.1 6), .ref (u1.1 7), .ref (u1.1 8), .ref (u1.1 9), .int 0, .ref (u1.1 11), .ref (u1.1 12), .ref (u1.1 13)])), ((u1.1 7), .inr (4, [.int 0, .ref (u1.1 41), .int 0, .ref (u1.1 42), .ref (u1.1 43)])), ((u1.1 42), .inl (cy 0, 27, .inl (fun _ => 0))), ((u1.1 13), .inl (cy 0, 4, .inl (fun _ => 0))), (q_2, .inr (12, [.int 0, .null, .int 0, .int 0, .int 0, .int 0, .int 0, .int 0, .int 0, .null, .null, .null, .null, .null, .null, .null, .int 0, .int 0, .int 0, .null, .null, .null, .int 0, .null, .null, .null, .null, .null, .null, .int 0, .int 0, .int 0, .int 0, .null, .int 0, .null, .int 0, .int 0]))] H := hP
  have hD : va_D A [(q_1, .inr (11, [.ref (u1.1 0), .ref (u1.1 1), .ref (u1.1 2), .int 0, .int 0, .ref (u1.1 5), .ref (u1.1 6), .ref (u1.1 7), .ref (u1.1 8), .ref (u1.1 9), .int 0, .ref (u1.1 11), .ref (u1.1 12), .ref (u1.1 13)])), ((u1.1 7), .inr (4, [.int 0, .ref (u1.1 41), .int 0, .ref (u1.1 42), .ref (u1.1 43)])), ((u1.1 42), .inl (cy 0, 27, .inl (fun _ => 0))), ((u1.1 13), .inl (cy 0, 4, .inl (fun _ => 0))), (q_2, .inr (12, [.int 0, .null, .int 0, .int 0, .int 0, .int 0, .int 0, .int 0, .int 0, .null, .null, .null, .null, .null, .null, .null, .int 0, .int 0, .int 0, .null, .null, .null, .int 0, .null, .null, .null, .null, .null, .null, .int 0, .int 0, .int 0, .int 0, .null, .int 0, .null, .int 0, .int 0]))] := hD
  refine lv_dup hx hb dL_law__11 rfl ?_
  refine cj_v (wr := [(q_1, .inr (11, [.ref (u1.1 0), .ref (u1.1 1), .ref (u1.1 2), .int 0, .int 0, .ref (u1.1 5), .ref (u1.1 6), .ref (u1.1 7), .ref (u1.1 8), .ref (u1.1 9), .int 0, .ref (u1.1 11), .ref (u1.1 12), .ref (u1.1 13)])), ((u1.1 7), .inr (4, [.int 0, .ref (u1.1 41), .int 0, .ref (u1.1 42), .ref (u1.1 43)])), ((u1.1 42), .inl (cy 0, 27, .inl (fun _ => 0))), ((u1.1 13), .inl (cy 0, 4, .inl (fun _ => 0)))]) (va_runI (As := []) (rest := [.ref q_2]) ⟨hx, hb, hml, hown, hts⟩ (c_M_dip l hl D cy sa q_2 H.size) (cwI 0 hts gl_X12_init rfl rfl rfl ini_RX12 ml120 im_X12_init rfl (by decide +kernel) ⟨Nat.le_of_ble_eq_true rfl, Nat.le_of_ble_eq_true rfl⟩) ⟨pcW.blind, (pcW.mk hP hD hS hA hG hT [4] rfl (by decide))⟩ rfl rfl hlv.1 rfl (lv_room (Nat.le_of_ble_eq_true rfl)) dL_law__12 ⟨Nat.le_of_ble_eq_true rfl, Nat.le_of_ble_eq_true rfl⟩) hP hD hS hA [4] [0, 1, 2, 3] rfl rfl (by decide) (by decide) (fun u2 H locs hw2 hP hD hS => ?_)
  have hP : va_P D vwCl [(q_1, .inr (11, [.ref (u1.1 0), .ref (u1.1 1), .ref (u1.1 2), .int 0, .int 0, .ref (u1.1 5), .ref (u1.1 6), .ref (u1.1 7), .ref (u1.1 8), .ref (u1.1 9), .int 0, .ref (u1.1 11), .ref (u1.1 12), .ref (u1.1 13)])), ((u1.1 7), .inr (4, [.int 0, .ref (u1.1 41), .int 0, .ref (u1.1 42), .ref (u1.1 43)])), ((u1.1 42), .inl (cy 0, 27, .inl (fun _ => 0))), ((u1.1 13), .inl (cy 0, 4, .inl (fun _ => 0))), (q_2, .inr (12, [.int 0, .ref (u2.1 1), .int 0, .int 0, .int 0, .int 0, .int 0, .int 0, .int (-1), .ref (u2.1 9), .ref (u2.1 10), .ref (u2.1 11), .ref (u2.1 12), .ref (u2.1 13), .ref (u2.1 14), .ref (u2.1 15), .int 0, .int 0, .int 0, .ref (u2.1 19), .ref (u2.1 20), .ref (u2.1 21), .int 0, .ref (u2.1 23), .ref (u2.1 24), .ref (u2.1 25), .ref (u2.1 26), .ref (u2.1 27), .ref (u2.1 28), .int 0, .int 0, .int 0, .int 0, .ref (u2.1 33), .int (-1), .ref (u2.1 35), .int 0, .int 0])), ((u2.1 1), .inl (cy 0, 4, .inl (fun _ => 0))), ((u2.1 12), .inl (cy 0, 389, .inl sF))] H := hP
  have hD : va_D A [(q_1, .inr (11, [.ref (u1.1 0), .ref (u1.1 1), .ref (u1.1 2), .int 0, .int 0, .ref (u1.1 5), .ref (u1.1 6), .ref (u1.1 7), .ref (u1.1 8), .ref (u1.1 9), .int 0, .ref (u1.1 11), .ref (u1.1 12), .ref (u1.1 13)])), ((u1.1 7), .inr (4, [.int 0, .ref (u1.1 41), .int 0, .ref (u1.1 42), .ref (u1.1 43)])), ((u1.1 42), .inl (cy 0, 27, .inl (fun _ => 0))), ((u1.1 13), .inl (cy 0, 4, .inl (fun _ => 0))), (q_2, .inr (12, [.int 0, .ref (u2.1 1), .int 0, .int 0, .int 0, .int 0, .int 0, .int 0, .int (-1), .ref (u2.1 9), .ref (u2.1 10), .ref (u2.1 11), .ref (u2.1 12), .ref (u2.1 13), .ref (u2.1 14), .ref (u2.1 15), .int 0, .int 0, .int 0, .ref (u2.1 19), .ref (u2.1 20), .ref (u2.1 21), .int 0, .ref (u2.1 23), .ref (u2.1 24), .ref (u2.1 25), .ref (u2.1 26), .ref (u2.1 27), .ref (u2.1 28), .int 0, .int 0, .int 0, .int 0, .ref (u2.1 33), .int (-1), .ref (u2.1 35), .int 0, .int 0])), ((u2.1 1), .inl (cy 0, 4, .inl (fun _ => 0))), ((u2.1 12), .inl (cy 0, 389, .inl sF))] := hD
  refine lv_astore_n (lv' := [(2, .ref q_2), (1, .ref q_1), (0, .ref b)]) hx hb dL_law__15 rfl hlv (by decide) rfl (fun ls hlv => ?_)
  refine lv_iconst (v := 1) hx hb dL_law__16 (by decide) ?_
  refine nw_a (atype := .long) (cy := cy) (a0 := (1, .inr (.inl (fun _ => 0)))) (N' := 1) hx hb ac2 (ty := .long) rfl 2 rfl (fun C h => nomatch h) hG.1 hP hD hS hA (fun cA => rfl) (by decide) (by decide) (Nat.le_of_ble_eq_true rfl) (Nat.le_of_ble_eq_true rfl) (Nat.le_of_ble_eq_true rfl) dL_law__17 (fun q_3 H hP hD hS => ?_)
  have hP : va_P D vwCl [(q_1, .inr (11, [.ref (u1.1 0), .ref (u1.1 1), .ref (u1.1 2), .int 0, .int 0, .ref (u1.1 5), .ref (u1.1 6), .ref (u1.1 7), .ref (u1.1 8), .ref (u1.1 9), .int 0, .ref (u1.1 11), .ref (u1.1 12), .ref (u1.1 13)])), ((u1.1 7), .inr (4, [.int 0, .ref (u1.1 41), .int 0, .ref (u1.1 42), .ref (u1.1 43)])), ((u1.1 42), .inl (cy 0, 27, .inl (fun _ => 0))), ((u1.1 13), .inl (cy 0, 4, .inl (fun _ => 0))), (q_2, .inr (12, [.int 0, .ref (u2.1 1), .int 0, .int 0, .int 0, .int 0, .int 0, .int 0, .int (-1), .ref (u2.1 9), .ref (u2.1 10), .ref (u2.1 11), .ref (u2.1 12), .ref (u2.1 13), .ref (u2.1 14), .ref (u2.1 15), .int 0, .int 0, .int 0, .ref (u2.1 19), .ref (u2.1 20), .ref (u2.1 21), .int 0, .ref (u2.1 23), .ref (u2.1 24), .ref (u2.1 25), .ref (u2.1 26), .ref (u2.1 27), .ref (u2.1 28), .int 0, .int 0, .int 0, .int 0, .ref (u2.1 33), .int (-1), .ref (u2.1 35), .int 0, .int 0])), ((u2.1 1), .inl (cy 0, 4, .inl (fun _ => 0))), ((u2.1 12), .inl (cy 0, 389, .inl sF)), (q_3, .inl (cy 2, 1, .inr (.inl (fun _ => 0))))] H := hP
  have hD : va_D A [(q_1, .inr (11, [.ref (u1.1 0), .ref (u1.1 1), .ref (u1.1 2), .int 0, .int 0, .ref (u1.1 5), .ref (u1.1 6), .ref (u1.1 7), .ref (u1.1 8), .ref (u1.1 9), .int 0, .ref (u1.1 11), .ref (u1.1 12), .ref (u1.1 13)])), ((u1.1 7), .inr (4, [.int 0, .ref (u1.1 41), .int 0, .ref (u1.1 42), .ref (u1.1 43)])), ((u1.1 42), .inl (cy 0, 27, .inl (fun _ => 0))), ((u1.1 13), .inl (cy 0, 4, .inl (fun _ => 0))), (q_2, .inr (12, [.int 0, .ref (u2.1 1), .int 0, .int 0, .int 0, .int 0, .int 0, .int 0, .int (-1), .ref (u2.1 9), .ref (u2.1 10), .ref (u2.1 11), .ref (u2.1 12), .ref (u2.1 13), .ref (u2.1 14), .ref (u2.1 15), .int 0, .int 0, .int 0, .ref (u2.1 19), .ref (u2.1 20), .ref (u2.1 21), .int 0, .ref (u2.1 23), .ref (u2.1 24), .ref (u2.1 25), .ref (u2.1 26), .ref (u2.1 27), .ref (u2.1 28), .int 0, .int 0, .int 0, .int 0, .ref (u2.1 33), .int (-1), .ref (u2.1 35), .int 0, .int 0])), ((u2.1 1), .inl (cy 0, 4, .inl (fun _ => 0))), ((u2.1 12), .inl (cy 0, 389, .inl sF)), (q_3, .inl (cy 2, 1, .inr (.inl (fun _ => 0))))] := hD
  refine lv_astore_n (lv' := [(3, .ref q_3), (2, .ref q_2), (1, .ref q_1), (0, .ref b)]) hx hb dL_law__19 rfl hlv (by decide) rfl (fun ls hlv => ?_)
  refine lv_iconst (v := 0) hx hb dL_law__20 (by decide) ?_
  refine lv_istore (lv' := [(4, .int 0), (3, .ref q_3), (2, .ref q_2), (1, .ref q_1), (0, .ref b)]) hx hb dL_law__21 hlv (by decide) rfl (fun ls hlv => ?_)
  refine lv_iload hx hb dL_law__23 (lv_at hlv 0 rfl) ?_
  refine lv_aload_n hx hb dL_law__25 rfl (lv_at hlv 4 rfl) ?_
  refine va_slen hx hb hX hbl hbA hS dL_law__26 ?_
  refine lt_i (y := 10) (by decide) ?_
  refine lv_bipush (v := 10) hx hb dL_law__27 (by decide) ?_
  refine lv_isub hx hb dL_law__29 ?_
  refine lt_i (y := 0) (by decide) ?_
  refine lv_icmp_gt (tgt := 2761) hx hb dL_law__30 (by decide) (fun c => absurd c (by decide)) (fun _ => ?_)
  refine lv_aload_n hx hb dL_law__33 rfl (lv_at hlv 4 rfl) ?_
  refine lv_iload hx hb dL_law__34 (lv_at hlv 0 rfl) ?_
  refine va_sld hx hb hX hbl hbA hS (vpd (by decide)) dL_law__36 ?_
  refine lt_i (y := xs 0) rfl ?_
  refine lv_bipush (v := 63) hx hb dL_law__37 (by decide) ?_
  refine lv_iand hx hb dL_law__39 ?_
  refine lt_i (y := 30) h63 ?_
  refine lv_tableIn (tgt := 2419) hx hb dL_law__40 (by decide) (by decide) rfl (by decide) ?_
  refine lv_aload_n hx hb dL_law__2419 rfl (lv_at hlv 3 rfl) ?_
  refine lv_aload_n hx hb dL_law__2420 rfl (lv_at hlv 4 rfl) ?_
  refine lv_iload hx hb dL_law__2421 (lv_at hlv 0 rfl) ?_
  refine lv_iconst (v := 1) hx hb dL_law__2423 (by decide) ?_
  refine lv_iadd hx hb dL_law__2424 ?_
  refine lt_i (y := 1) (by decide) ?_
  refine va_sld hx hb hX hbl hbA hS (vpd (by decide)) dL_law__2425 ?_
  refine lt_i (y := xs 1) rfl ?_
  refine lv_aload_n hx hb dL_law__2426 rfl (lv_at hlv 4 rfl) ?_
  refine lv_iload hx hb dL_law__2427 (lv_at hlv 0 rfl) ?_
  refine lv_iconst (v := 2) hx hb dL_law__2429 (by decide) ?_
  refine lv_iadd hx hb dL_law__2430 ?_
  refine lt_i (y := 2) (by decide) ?_
  refine va_sld hx hb hX hbl hbA hS (vpd (by decide)) dL_law__2431 ?_
  refine lt_i (y := xs 2) rfl ?_
  refine lv_aload_n hx hb dL_law__2432 rfl (lv_at hlv 4 rfl) ?_
  refine lv_iload hx hb dL_law__2433 (lv_at hlv 0 rfl) ?_
  refine lv_iconst (v := 3) hx hb dL_law__2435 (by decide) ?_
  refine lv_iadd hx hb dL_law__2436 ?_
  refine lt_i (y := 3) (by decide) ?_
  refine va_sld hx hb hX hbl hbA hS (vpd (by decide)) dL_law__2437 ?_
  refine lt_i (y := xs 3) rfl ?_
  refine lv_aload_n hx hb dL_law__2438 rfl (lv_at hlv 1 rfl) ?_
  refine cj_i (wr := [(q_2, .inr (12, [.int 0, .ref (u2.1 1), .int 0, .int 0, .int 0, .int 0, .int 0, .int 0, .int (-1), .ref (u2.1 9), .ref (u2.1 10), .ref (u2.1 11), .ref (u2.1 12), .ref (u2.1 13), .ref (u2.1 14), .ref (u2.1 15), .int 0, .int 0, .int 0, .ref (u2.1 19), .ref (u2.1 20), .ref (u2.1 21), .int 0, .ref (u2.1 23), .ref (u2.1 24), .ref (u2.1 25), .ref (u2.1 26), .ref (u2.1 27), .ref (u2.1 28), .int 0, .int 0, .int 0, .int 0, .ref (u2.1 33), .int (-1), .ref (u2.1 35), .int 0, .int 0])), ((u2.1 1), .inl (cy 0, 4, .inl (fun _ => 0))), ((u2.1 12), .inl (cy 0, 389, .inl sF))]) (vx_runSW (As := [.ref q_1, .int (xs 1), .int (xs 2), .int (xs 3), .ref q_3]) (rest := []) ⟨hx, hb, hml, hown, hts⟩ (w_dip l hl D cy sa q_1 u1.1 (xs 1) (xs 2) (xs 3) q_3 H.size) (vx_cwSW 5 hts gl_w_dip rfl rfl rfl (by decide +kernel) ⟨Nat.le_of_ble_eq_true rfl, Nat.le_of_ble_eq_true rfl⟩) ⟨pcW.blind, (pcW.mk hP hD hS hA hG hT [0, 1, 2, 3, 7] rfl (by decide))⟩ rfl rfl hlv.1 rfl (lv_room (Nat.le_of_ble_eq_true rfl)) dL_law__2439 ⟨Nat.le_of_ble_eq_true rfl, Nat.le_of_ble_eq_true rfl⟩) hP hD hS hA [0, 1, 2, 3, 7] [4, 5, 6] rfl rfl (by decide) (by decide) (fun r3 u3 H locs hw3 hP hD hS => ?_)
  rcases hw3 with ⟨hg3, rfl, he3_0⟩ | ⟨hg3, rfl⟩
  · rw [he3_0] at hP hD
    have hP : va_P D vwCl [(q_2, .inr (12, [.int 0, .ref (u2.1 1), .int 0, .int 0, .int 0, .int 0, .int 0, .int 0, .int (-1), .ref (u2.1 9), .ref (u2.1 10), .ref (u2.1 11), .ref (u2.1 12), .ref (u2.1 13), .ref (u2.1 14), .ref (u2.1 15), .int 0, .int 0, .int 0, .ref (u2.1 19), .ref (u2.1 20), .ref (u2.1 21), .int 0, .ref (u2.1 23), .ref (u2.1 24), .ref (u2.1 25), .ref (u2.1 26), .ref (u2.1 27), .ref (u2.1 28), .int 0, .int 0, .int 0, .int 0, .ref (u2.1 33), .int (-1), .ref (u2.1 35), .int 0, .int 0])), ((u2.1 1), .inl (cy 0, 4, .inl (fun _ => 0))), ((u2.1 12), .inl (cy 0, 389, .inl sF)), (q_3, .inl (cy 2, 1, .inr (.inl (fun _ => (1 : Int32).toInt64))))] H := hP
    have hD : va_D A [(q_2, .inr (12, [.int 0, .ref (u2.1 1), .int 0, .int 0, .int 0, .int 0, .int 0, .int 0, .int (-1), .ref (u2.1 9), .ref (u2.1 10), .ref (u2.1 11), .ref (u2.1 12), .ref (u2.1 13), .ref (u2.1 14), .ref (u2.1 15), .int 0, .int 0, .int 0, .ref (u2.1 19), .ref (u2.1 20), .ref (u2.1 21), .int 0, .ref (u2.1 23), .ref (u2.1 24), .ref (u2.1 25), .ref (u2.1 26), .ref (u2.1 27), .ref (u2.1 28), .int 0, .int 0, .int 0, .int 0, .ref (u2.1 33), .int (-1), .ref (u2.1 35), .int 0, .int 0])), ((u2.1 1), .inl (cy 0, 4, .inl (fun _ => 0))), ((u2.1 12), .inl (cy 0, 389, .inl sF)), (q_3, .inl (cy 2, 1, .inr (.inl (fun _ => (1 : Int32).toInt64))))] := hD
    refine lv_istore (lv' := [(5, .int 0), (4, .int 0), (3, .ref q_3), (2, .ref q_2), (1, .ref q_1), (0, .ref b)]) hx hb dL_law__2442 hlv (by decide) rfl (fun ls hlv => ?_)
    refine lv_aload_n hx hb dL_law__2444 rfl (lv_at hlv 3 rfl) ?_
    refine lv_aload_n hx hb dL_law__2445 rfl (lv_at hlv 5 rfl) ?_
    refine lv_iload hx hb dL_law__2446 (lv_at hlv 1 rfl) ?_
    refine lv_iconst (v := 1) hx hb dL_law__2448 (by decide) ?_
    refine lv_iadd hx hb dL_law__2449 ?_
    refine lt_i (y := 1) (by decide) ?_
    refine va_sld hx hb hX hbl hbA hS (vpd (by decide)) dL_law__2450 ?_
    refine lt_i (y := xs 1) rfl ?_
    refine lv_aload_n hx hb dL_law__2451 rfl (lv_at hlv 5 rfl) ?_
    refine lv_iload hx hb dL_law__2452 (lv_at hlv 1 rfl) ?_
    refine lv_iconst (v := 2) hx hb dL_law__2454 (by decide) ?_
    refine lv_iadd hx hb dL_law__2455 ?_
    refine lt_i (y := 2) (by decide) ?_
    refine va_sld hx hb hX hbl hbA hS (vpd (by decide)) dL_law__2456 ?_
    refine lt_i (y := xs 2) rfl ?_
    refine lv_aload_n hx hb dL_law__2457 rfl (lv_at hlv 5 rfl) ?_
    refine lv_iload hx hb dL_law__2458 (lv_at hlv 1 rfl) ?_
    refine lv_iconst (v := 3) hx hb dL_law__2460 (by decide) ?_
    refine lv_iadd hx hb dL_law__2461 ?_
    refine lt_i (y := 3) (by decide) ?_
    refine va_sld hx hb hX hbl hbA hS (vpd (by decide)) dL_law__2462 ?_
    refine lt_i (y := xs 3) rfl ?_
    refine cj_i (wr := [(q_3, .inl (cy 2, 1, .inr (.inl (fun _ => (1 : Int32).toInt64))))]) (va_runV (As := [.int (xs 1), .int (xs 2), .int (xs 3)]) (rest := []) ⟨hx, hb, hml, hown, hts⟩ (m_dip l hl D cy sa q_2 u2.1 (xs 1) (xs 2) (xs 3) H.size) (cwV 3 hts gl_m_dip rfl rfl rfl (by decide +kernel) ⟨Nat.le_of_ble_eq_true rfl, Nat.le_of_ble_eq_true rfl⟩) ⟨pcW.blind, (va_recv hG.1 hP (ci := 12) (q0 := 0) rfl rfl), (pcW.mk hP hD hS hA hG hT [0, 1, 2] rfl (by decide))⟩ rfl rfl hlv.1 rfl (lv_room (Nat.le_of_ble_eq_true rfl)) dL_law__2463 ⟨Nat.le_of_ble_eq_true rfl, Nat.le_of_ble_eq_true rfl⟩) hP hD hS hA [0, 1, 2] [3] rfl rfl (by decide) (by decide) (fun r4 u4 H locs hw4 hP hD hS => ?_)
    rcases hw4 with ⟨hg4, rfl, he4_0⟩ | ⟨hg4, rfl, he4_0⟩
    · exact absurd hg4 (fun q => absurd ⟨hg3.1, hg3.2.1, hg3.2.2⟩ q)
    · rw [he4_0] at hP hD
      have hP : va_P D vwCl [(q_3, .inl (cy 2, 1, .inr (.inl (fun _ => (1 : Int32).toInt64)))), (q_2, .inr (12, [.int 0, .ref (u2.1 1), .int 0, .int 0, .int 0, .int 0, .int 0, .int 0, .int (-1), .ref (u2.1 9), .ref (u2.1 10), .ref (u2.1 11), .ref (u2.1 12), .ref (u2.1 13), .ref (u2.1 14), .ref (u2.1 15), .int 0, .int 0, .int 0, .ref (u2.1 19), .ref (u2.1 20), .ref (u2.1 21), .int 0, .ref (u2.1 23), .ref (u2.1 24), .ref (u2.1 25), .ref (u2.1 26), .ref (u2.1 27), .ref (u2.1 28), .int 0, .int 0, .int 0, .int 0, .ref (u2.1 33), .int (-1), .ref (u2.1 35), .int 0, .int 0]))] H := hP
      have hD : va_D A [(q_3, .inl (cy 2, 1, .inr (.inl (fun _ => (1 : Int32).toInt64)))), (q_2, .inr (12, [.int 0, .ref (u2.1 1), .int 0, .int 0, .int 0, .int 0, .int 0, .int 0, .int (-1), .ref (u2.1 9), .ref (u2.1 10), .ref (u2.1 11), .ref (u2.1 12), .ref (u2.1 13), .ref (u2.1 14), .ref (u2.1 15), .int 0, .int 0, .int 0, .ref (u2.1 19), .ref (u2.1 20), .ref (u2.1 21), .int 0, .ref (u2.1 23), .ref (u2.1 24), .ref (u2.1 25), .ref (u2.1 26), .ref (u2.1 27), .ref (u2.1 28), .int 0, .int 0, .int 0, .int 0, .ref (u2.1 33), .int (-1), .ref (u2.1 35), .int 0, .int 0]))] := hD
      refine lv_istore (lv' := [(6, .int 1), (5, .int 0), (4, .int 0), (3, .ref q_3), (2, .ref q_2), (1, .ref q_1), (0, .ref b)]) hx hb dL_law__2466 hlv (by decide) rfl (fun ls hlv => ?_)
      refine lv_aload_n hx hb dL_law__2468 rfl (lv_at hlv 4 rfl) ?_
      refine cj_i (wr := [(q_3, .inl (cy 2, 1, .inr (.inl (fun _ => (1 : Int32).toInt64))))]) (va_runV (As := []) (rest := []) ⟨hx, hb, hml, hown, hts⟩ (c_thrown l hl D cy sa q_2 u2.1 0 0 0 0 0 0 0 (-1) 0 0 0 0 0 0 0 0 (-1) 0 0 H.size) (cwV 0 hts gl_c_thrown rfl rfl rfl (by decide +kernel) ⟨Nat.le_of_ble_eq_true rfl, Nat.le_of_ble_eq_true rfl⟩) ⟨pcW.blind, (va_recv hG.1 hP (ci := 12) (q0 := 1) rfl rfl), (pcW.mk hP hD hS hA hG hT [1] rfl (by decide))⟩ rfl rfl hlv.1 rfl (lv_room (Nat.le_of_ble_eq_true rfl)) dL_law__2469 ⟨Nat.le_of_ble_eq_true rfl, Nat.le_of_ble_eq_true rfl⟩) hP hD hS hA [1] [0] rfl rfl (by decide) (by decide) (fun r5 u5 H locs hw5 hP hD hS => ?_)
      obtain rfl := hw5
      have hP : va_P D vwCl [(q_3, .inl (cy 2, 1, .inr (.inl (fun _ => (1 : Int32).toInt64))))] H := hP
      have hD : va_D A [(q_3, .inl (cy 2, 1, .inr (.inl (fun _ => (1 : Int32).toInt64))))] := hD
      refine lv_iload hx hb dL_law__2472 (lv_at hlv 1 rfl) ?_
      refine lv_icmp_eq (tgt := 2479) hx hb dL_law__2474 (by decide) (fun _ => ?_) (fun c => absurd (by decide) c)
      refine lv_iload hx hb dL_law__2479 (lv_at hlv 1 rfl) ?_
      refine lv_if_ne (tgt := 2496) hx hb dL_law__2481 (by decide) (fun c => absurd (by decide) c) (fun _ => ?_)
      refine lv_aload_n hx hb dL_law__2484 rfl (lv_at hlv 3 rfl) ?_
      refine lv_iconst (v := 0) hx hb dL_law__2485 (by decide) ?_
      refine va_lald hx hb hG.1 hP 0 2 rfl rfl (vpd (by decide)) dL_law__2486 ?_
      refine ltv (y := .long ((1 : Int32).toInt64)) rfl ?_
      refine lv_iload hx hb dL_law__2487 (lv_at hlv 0 rfl) ?_
      refine lv_i2l (v := (1 : Int32).toInt64) hx hb dL_law__2489 rfl ?_
      refine W.lcmp hx hb dL_law__2490 ?_
      refine lt_i (y := 0) (lcmp_self _) ?_
      refine lv_if_eq (tgt := 2496) hx hb dL_law__2491 (by decide) (fun _ => ?_) (fun c => absurd (by decide) c)
      refine lv_goto (tgt := 2755) hx hb dL_law__2496 (by decide) ?_
      refine lv_iinc (v := 10) (lv' := [(4, .int 10), (6, .int 1), (5, .int 0), (3, .ref q_3), (2, .ref q_2), (1, .ref q_1), (0, .ref b)]) hx hb dL_law__2755 hlv (k := 2) rfl (by decide) (by decide) rfl (fun ls hlv => ?_)
      refine lv_goto (tgt := 23) hx hb dL_law__2758 (by decide) ?_
      refine lv_iload hx hb dL_law__23 (lv_at hlv 0 rfl) ?_
      refine lv_aload_n hx hb dL_law__25 rfl (lv_at hlv 6 rfl) ?_
      refine va_slen hx hb hX hbl hbA hS dL_law__26 ?_
      refine lt_i (y := 10) (by decide) ?_
      refine lv_bipush (v := 10) hx hb dL_law__27 (by decide) ?_
      refine lv_isub hx hb dL_law__29 ?_
      refine lt_i (y := 0) (by decide) ?_
      refine lv_icmp_gt (tgt := 2761) hx hb dL_law__30 (by decide) (fun _ => ?_) (fun c => absurd (by decide) c)
      refine lv_iconst (v := 1) hx hb dL_law__2761 (by decide) ?_
      refine va_forget (fun q hq => by have h9 := hS.2.2 q hq; rw [hAe] at h9; exact h9) ?_
      refine W.widen (k := 600002) (n := 7302232) (Nat.le_of_ble_eq_true rfl) (Nat.le_of_ble_eq_true rfl) ?_
      exact lw_ret hx hb hr hlocks dL_law__2762
  · have hP : va_P D vwCl [(q_2, .inr (12, [.int 0, .ref (u2.1 1), .int 0, .int 0, .int 0, .int 0, .int 0, .int 0, .int (-1), .ref (u2.1 9), .ref (u2.1 10), .ref (u2.1 11), .ref (u2.1 12), .ref (u2.1 13), .ref (u2.1 14), .ref (u2.1 15), .int 0, .int 0, .int 0, .ref (u2.1 19), .ref (u2.1 20), .ref (u2.1 21), .int 0, .ref (u2.1 23), .ref (u2.1 24), .ref (u2.1 25), .ref (u2.1 26), .ref (u2.1 27), .ref (u2.1 28), .int 0, .int 0, .int 0, .int 0, .ref (u2.1 33), .int (-1), .ref (u2.1 35), .int 0, .int 0])), ((u2.1 1), .inl (cy 0, 4, .inl (fun _ => 0))), ((u2.1 12), .inl (cy 0, 389, .inl sF)), (q_3, .inl (cy 2, 1, .inr (.inl (fun _ => (u3.2.1 0 : Int32).toInt64))))] H := hP
    have hD : va_D A [(q_2, .inr (12, [.int 0, .ref (u2.1 1), .int 0, .int 0, .int 0, .int 0, .int 0, .int 0, .int (-1), .ref (u2.1 9), .ref (u2.1 10), .ref (u2.1 11), .ref (u2.1 12), .ref (u2.1 13), .ref (u2.1 14), .ref (u2.1 15), .int 0, .int 0, .int 0, .ref (u2.1 19), .ref (u2.1 20), .ref (u2.1 21), .int 0, .ref (u2.1 23), .ref (u2.1 24), .ref (u2.1 25), .ref (u2.1 26), .ref (u2.1 27), .ref (u2.1 28), .int 0, .int 0, .int 0, .int 0, .ref (u2.1 33), .int (-1), .ref (u2.1 35), .int 0, .int 0])), ((u2.1 1), .inl (cy 0, 4, .inl (fun _ => 0))), ((u2.1 12), .inl (cy 0, 389, .inl sF)), (q_3, .inl (cy 2, 1, .inr (.inl (fun _ => (u3.2.1 0 : Int32).toInt64))))] := hD
    refine lv_istore (lv' := [(5, .int 1), (4, .int 0), (3, .ref q_3), (2, .ref q_2), (1, .ref q_1), (0, .ref b)]) hx hb dL_law__2442 hlv (by decide) rfl (fun ls hlv => ?_)
    refine lv_aload_n hx hb dL_law__2444 rfl (lv_at hlv 3 rfl) ?_
    refine lv_aload_n hx hb dL_law__2445 rfl (lv_at hlv 5 rfl) ?_
    refine lv_iload hx hb dL_law__2446 (lv_at hlv 1 rfl) ?_
    refine lv_iconst (v := 1) hx hb dL_law__2448 (by decide) ?_
    refine lv_iadd hx hb dL_law__2449 ?_
    refine lt_i (y := 1) (by decide) ?_
    refine va_sld hx hb hX hbl hbA hS (vpd (by decide)) dL_law__2450 ?_
    refine lt_i (y := xs 1) rfl ?_
    refine lv_aload_n hx hb dL_law__2451 rfl (lv_at hlv 5 rfl) ?_
    refine lv_iload hx hb dL_law__2452 (lv_at hlv 1 rfl) ?_
    refine lv_iconst (v := 2) hx hb dL_law__2454 (by decide) ?_
    refine lv_iadd hx hb dL_law__2455 ?_
    refine lt_i (y := 2) (by decide) ?_
    refine va_sld hx hb hX hbl hbA hS (vpd (by decide)) dL_law__2456 ?_
    refine lt_i (y := xs 2) rfl ?_
    refine lv_aload_n hx hb dL_law__2457 rfl (lv_at hlv 5 rfl) ?_
    refine lv_iload hx hb dL_law__2458 (lv_at hlv 1 rfl) ?_
    refine lv_iconst (v := 3) hx hb dL_law__2460 (by decide) ?_
    refine lv_iadd hx hb dL_law__2461 ?_
    refine lt_i (y := 3) (by decide) ?_
    refine va_sld hx hb hX hbl hbA hS (vpd (by decide)) dL_law__2462 ?_
    refine lt_i (y := xs 3) rfl ?_
    refine cj_i (wr := [(q_3, .inl (cy 2, 1, .inr (.inl (fun _ => (u3.2.1 0 : Int32).toInt64))))]) (va_runV (As := [.int (xs 1), .int (xs 2), .int (xs 3)]) (rest := []) ⟨hx, hb, hml, hown, hts⟩ (m_dip l hl D cy sa q_2 u2.1 (xs 1) (xs 2) (xs 3) H.size) (cwV 3 hts gl_m_dip rfl rfl rfl (by decide +kernel) ⟨Nat.le_of_ble_eq_true rfl, Nat.le_of_ble_eq_true rfl⟩) ⟨pcW.blind, (va_recv hG.1 hP (ci := 12) (q0 := 0) rfl rfl), (pcW.mk hP hD hS hA hG hT [0, 1, 2] rfl (by decide))⟩ rfl rfl hlv.1 rfl (lv_room (Nat.le_of_ble_eq_true rfl)) dL_law__2463 ⟨Nat.le_of_ble_eq_true rfl, Nat.le_of_ble_eq_true rfl⟩) hP hD hS hA [0, 1, 2] [3] rfl rfl (by decide) (by decide) (fun r6 u6 H locs hw6 hP hD hS => ?_)
    rcases hw6 with ⟨hg6, rfl, he6_0⟩ | ⟨hg6, rfl, he6_0⟩
    · rw [he6_0] at hP hD
      have hP : va_P D vwCl [(q_3, .inl (cy 2, 1, .inr (.inl (fun _ => (u3.2.1 0 : Int32).toInt64)))), (q_2, .inr (12, [.int 1, .ref (u2.1 1), .int 0, .int 0, .int 0, .int 0, .int 0, .int 0, .int (-1), .ref (u2.1 9), .ref (u2.1 10), .ref (u2.1 11), .ref (u2.1 12), .ref (u2.1 13), .ref (u2.1 14), .ref (u2.1 15), .int 0, .int 0, .int 0, .ref (u2.1 19), .ref (u2.1 20), .ref (u2.1 21), .int 0, .ref (u2.1 23), .ref (u2.1 24), .ref (u2.1 25), .ref (u2.1 26), .ref (u2.1 27), .ref (u2.1 28), .int 0, .int 0, .int 0, .int 0, .ref (u2.1 33), .int (-1), .ref (u2.1 35), .int 0, .int 0]))] H := hP
      have hD : va_D A [(q_3, .inl (cy 2, 1, .inr (.inl (fun _ => (u3.2.1 0 : Int32).toInt64)))), (q_2, .inr (12, [.int 1, .ref (u2.1 1), .int 0, .int 0, .int 0, .int 0, .int 0, .int 0, .int (-1), .ref (u2.1 9), .ref (u2.1 10), .ref (u2.1 11), .ref (u2.1 12), .ref (u2.1 13), .ref (u2.1 14), .ref (u2.1 15), .int 0, .int 0, .int 0, .ref (u2.1 19), .ref (u2.1 20), .ref (u2.1 21), .int 0, .ref (u2.1 23), .ref (u2.1 24), .ref (u2.1 25), .ref (u2.1 26), .ref (u2.1 27), .ref (u2.1 28), .int 0, .int 0, .int 0, .int 0, .ref (u2.1 33), .int (-1), .ref (u2.1 35), .int 0, .int 0]))] := hD
      refine lv_istore (lv' := [(6, .int 0), (5, .int 1), (4, .int 0), (3, .ref q_3), (2, .ref q_2), (1, .ref q_1), (0, .ref b)]) hx hb dL_law__2466 hlv (by decide) rfl (fun ls hlv => ?_)
      refine lv_aload_n hx hb dL_law__2468 rfl (lv_at hlv 4 rfl) ?_
      refine cj_i (wr := [(q_3, .inl (cy 2, 1, .inr (.inl (fun _ => (u3.2.1 0 : Int32).toInt64))))]) (va_runV (As := []) (rest := []) ⟨hx, hb, hml, hown, hts⟩ (c_thrown l hl D cy sa q_2 u2.1 1 0 0 0 0 0 0 (-1) 0 0 0 0 0 0 0 0 (-1) 0 0 H.size) (cwV 0 hts gl_c_thrown rfl rfl rfl (by decide +kernel) ⟨Nat.le_of_ble_eq_true rfl, Nat.le_of_ble_eq_true rfl⟩) ⟨pcW.blind, (va_recv hG.1 hP (ci := 12) (q0 := 1) rfl rfl), (pcW.mk hP hD hS hA hG hT [1] rfl (by decide))⟩ rfl rfl hlv.1 rfl (lv_room (Nat.le_of_ble_eq_true rfl)) dL_law__2469 ⟨Nat.le_of_ble_eq_true rfl, Nat.le_of_ble_eq_true rfl⟩) hP hD hS hA [1] [0] rfl rfl (by decide) (by decide) (fun r7 u7 H locs hw7 hP hD hS => ?_)
      obtain rfl := hw7
      have hP : va_P D vwCl [(q_3, .inl (cy 2, 1, .inr (.inl (fun _ => (u3.2.1 0 : Int32).toInt64))))] H := hP
      have hD : va_D A [(q_3, .inl (cy 2, 1, .inr (.inl (fun _ => (u3.2.1 0 : Int32).toInt64))))] := hD
      refine lv_iload hx hb dL_law__2472 (lv_at hlv 1 rfl) ?_
      refine lv_icmp_eq (tgt := 2479) hx hb dL_law__2474 (by decide) (fun _ => ?_) (fun c => absurd (by decide) c)
      refine lv_iload hx hb dL_law__2479 (lv_at hlv 1 rfl) ?_
      refine lv_if_ne (tgt := 2496) hx hb dL_law__2481 (by decide) (fun _ => ?_) (fun c => absurd c (by decide))
      refine lv_goto (tgt := 2755) hx hb dL_law__2496 (by decide) ?_
      refine lv_iinc (v := 10) (lv' := [(4, .int 10), (6, .int 0), (5, .int 1), (3, .ref q_3), (2, .ref q_2), (1, .ref q_1), (0, .ref b)]) hx hb dL_law__2755 hlv (k := 2) rfl (by decide) (by decide) rfl (fun ls hlv => ?_)
      refine lv_goto (tgt := 23) hx hb dL_law__2758 (by decide) ?_
      refine lv_iload hx hb dL_law__23 (lv_at hlv 0 rfl) ?_
      refine lv_aload_n hx hb dL_law__25 rfl (lv_at hlv 6 rfl) ?_
      refine va_slen hx hb hX hbl hbA hS dL_law__26 ?_
      refine lt_i (y := 10) (by decide) ?_
      refine lv_bipush (v := 10) hx hb dL_law__27 (by decide) ?_
      refine lv_isub hx hb dL_law__29 ?_
      refine lt_i (y := 0) (by decide) ?_
      refine lv_icmp_gt (tgt := 2761) hx hb dL_law__30 (by decide) (fun _ => ?_) (fun c => absurd (by decide) c)
      refine lv_iconst (v := 1) hx hb dL_law__2761 (by decide) ?_
      refine va_forget (fun q hq => by have h9 := hS.2.2 q hq; rw [hAe] at h9; exact h9) ?_
      refine W.widen (k := 600002) (n := 7302232) (Nat.le_of_ble_eq_true rfl) (Nat.le_of_ble_eq_true rfl) ?_
      exact lw_ret hx hb hr hlocks dL_law__2762
    · exact absurd hg6 hg3
set_option maxHeartbeats 4000000 in
set_option maxRecDepth 100000 in
theorem law_town {p : Program} {e : Env} {s : State} {m : MethodId} {below : List Frame} {meth : Method} {c : Code} (l : Launch) (hl : l.stackTraces = false) {b : Nat} {xs : Nat → Int32} {D : va_G} {cy : Nat → ClassId} {sa : Nat → Nat} {A : Nat → Prop} (hAe : A = fun q => s.heap.size ≤ q) (C0 : lw_At p s m meth c b 10 xs) (hG : GC D cy sa s) (hT : TH A s s.heap) (h63 : xs 0 &&& 63 = 31) : W p l e room_1 s m #[Value.ref b] below meth c s.heap [] 0 0 (lw_Z below #[Value.ref b] s) (entryFrame m ([Value.ref b] : List Value).toArray 7) := by
  obtain ⟨hx, hb, hr, hml, hown0, hts0, hX, hbl, hlocks, hgv⟩ := id C0
  have hown : s.vm.findClass RL = some m.cls := hown0
  have hts := hts0
  have hA : ∀ q : Nat, s.heap.size ≤ q → A q := fun q h => by rw [hAe]; exact h
  have hbA : ¬ A b := by rw [hAe]; exact Nat.not_le.mpr hbl
  have hS : va_S A s.heap s.heap [] := va_S.rf
  have hP : va_P D vwCl [] s.heap := fun k q h => by simp at h
  have hD : va_D A [] := ⟨fun i j p q h => by simp at h, fun k q h => by simp at h⟩
  have hl0 := lv_entry ([.ref b]) (n := 7) (Nat.le_of_ble_eq_true rfl)
  rw [lg_entry_eq]
  generalize (lg_sl ([.ref b]) ++ List.replicate (7 - (lg_sl ([.ref b])).length) Slot.unset).toArray = ls at hl0 ⊢
  have hlv : lv_has ls 7 [(0, .ref b)] := hl0
  have cl8 := hts (.classLink RL 8 RX11) lwd_0
  have in11 := hts (.instantiable RX11 14) lwd_1
  have ini11 := hts (.initialized RX11) lwd_2
  have ini_RX11 := hts (.initialized RX11) lwd_2
  have ml117 := hts (.methodLink RL 117 yX11_init) lwd_3
  have im_X11_init := hts (.instanceMethod yX11_init) lwd_4
  have cl118 := hts (.classLink RL 118 RX12) lwd_5
  have in12 := hts (.instantiable RX12 38) lwd_6
  have ini12 := hts (.initialized RX12) lwd_7
  have ini_RX12 := hts (.initialized RX12) lwd_7
  have ml120 := hts (.methodLink RL 120 yX12_init) lwd_8
  have im_X12_init := hts (.instanceMethod yX12_init) lwd_9
  have ac2 := hts (.arrayClass .long) lwd_10
  refine va_new (ci := 11) (fs := [.null, .null, .null, .int 0, .int 0, .null, .null, .null, .null, .null, .int 0, .null, .null, .null]) (C := RX11) (T := TX11) (N := 14) hx hb hts inX11 tyX11 tyX11_ok hown cl8 in11 ini11 hG.1 hP hD hS hA rfl (by decide) (Nat.le_of_ble_eq_true rfl) (Nat.le_of_ble_eq_true rfl) dL_law__0 (fun q_1 H hP hD hS => ?_)
  have hP : va_P D vwCl [(q_1, .inr (11, [.null, .null, .null, .int 0, .int 0, .null, .null, .null, .null, .null, .int 0, .null, .null, .null]))] H := hP
  have hD : va_D A [(q_1, .inr (11, [.null, .null, .null, .int 0, .int 0, .null, .null, .null, .null, .null, .int 0, .null, .null, .null]))] := hD
  refine lv_dup hx hb dL_law__3 rfl ?_
  refine cj_v (wr := []) (va_runI (As := []) (rest := [.ref q_1]) ⟨hx, hb, hml, hown, hts⟩ (c_K_town l hl D cy sa q_1 H.size) (cwI 0 hts gl_X11_init rfl rfl rfl ini_RX11 ml117 im_X11_init rfl (by decide +kernel) ⟨Nat.le_of_ble_eq_true rfl, Nat.le_of_ble_eq_true rfl⟩) ⟨pcW.blind, (pcW.mk hP hD hS hA hG hT [0] rfl (by decide))⟩ rfl rfl hlv.1 rfl (lv_room (Nat.le_of_ble_eq_true rfl)) dL_law__4 ⟨Nat.le_of_ble_eq_true rfl, Nat.le_of_ble_eq_true rfl⟩) hP hD hS hA [0] [] rfl rfl (by decide) (by decide) (fun u1 H locs hw1 hP hD hS => ?_)
  have hP : va_P D vwCl [(q_1, .inr (11, [.ref (u1.1 0), .ref (u1.1 1), .ref (u1.1 2), .int 0, .int 0, .ref (u1.1 5), .ref (u1.1 6), .ref (u1.1 7), .ref (u1.1 8), .ref (u1.1 9), .int 0, .ref (u1.1 11), .ref (u1.1 12), .ref (u1.1 13)])), ((u1.1 7), .inr (4, [.int 0, .ref (u1.1 41), .int 0, .ref (u1.1 42), .ref (u1.1 43)])), ((u1.1 13), .inl (cy 0, 4, .inl (fun _ => 0)))] H := hP
  have hD : va_D A [(q_1, .inr (11, [.ref (u1.1 0), .ref (u1.1 1), .ref (u1.1 2), .int 0, .int 0, .ref (u1.1 5), .ref (u1.1 6), .ref (u1.1 7), .ref (u1.1 8), .ref (u1.1 9), .int 0, .ref (u1.1 11), .ref (u1.1 12), .ref (u1.1 13)])), ((u1.1 7), .inr (4, [.int 0, .ref (u1.1 41), .int 0, .ref (u1.1 42), .ref (u1.1 43)])), ((u1.1 13), .inl (cy 0, 4, .inl (fun _ => 0)))] := hD
  refine lv_astore_n (lv' := [(1, .ref q_1), (0, .ref b)]) hx hb dL_law__7 rfl hlv (by decide) rfl (fun ls hlv => ?_)
  refine va_new (ci := 12) (fs := [.int 0, .null, .int 0, .int 0, .int 0, .int 0, .int 0, .int 0, .int 0, .null, .null, .null, .null, .null, .null, .null, .int 0, .int 0, .int 0, .null, .null, .null, .int 0, .null, .null, .null, .null, .null, .null, .int 0, .int 0, .int 0, .int 0, .null, .int 0, .null, .int 0, .int 0]) (C := RX12) (T := TX12) (N := 38) hx hb hts inX12 tyX12 tyX12_ok hown cl118 in12 ini12 hG.1 hP hD hS hA rfl (by decide) (Nat.le_of_ble_eq_true rfl) (Nat.le_of_ble_eq_true rfl) dL_law__8 (fun q_2 H hP hD hS => ?_)
  have hP : va_P D vwCl [(q_1, .inr (11, [.ref (u1.1 0), .ref (u1.1 1), .ref (u1.1 2), .int 0, .int 0, .ref (u1.1 5), .ref (u1.1 6), .ref (u1.1 7), .ref (u1.1 8), .ref (u1.1 9), .int 0, .ref (u1.1 11), .ref (u1.1 12), .ref (u1.1 13)])), ((u1.1 7), .inr (4, [.int 0, .ref (u1.1 41), .int 0, .ref (u1.1 42), .ref (u1.1 43)])), ((u1.1 13), .inl (cy 0, 4, .inl (fun _ => 0))), (q_2, .inr (12, [.int 0, .null, .int 0, .int 0, .int 0, .int 0, .int 0, .int 0, .int 0, .null, .null, .null, .null, .null, .null, .null, .int 0, .int 0, .int 0, .null, .null, .null, .int 0, .null, .null, .null, .null, .null, .null, .int 0, .int 0, .int 0, .int 0, .null, .int 0, .null, .int 0, .int 0]))] H := hP
  have hD : va_D A [(q_1, .inr (11, [.ref (u1.1 0), .ref (u1.1 1), .ref (u1.1 2), .int 0, .int 0, .ref (u1.1 5), .ref (u1.1 6), .ref (u1.1 7), .ref (u1.1 8), .ref (u1.1 9), .int 0, .ref (u1.1 11), .ref (u1.1 12), .ref (u1.1 13)])), ((u1.1 7), .inr (4, [.int 0, .ref (u1.1 41), .int 0, .ref (u1.1 42), .ref (u1.1 43)])), ((u1.1 13), .inl (cy 0, 4, .inl (fun _ => 0))), (q_2, .inr (12, [.int 0, .null, .int 0, .int 0, .int 0, .int 0, .int 0, .int 0, .int 0, .null, .null, .null, .null, .null, .null, .null, .int 0, .int 0, .int 0, .null, .null, .null, .int 0, .null, .null, .null, .null, .null, .null, .int 0, .int 0, .int 0, .int 0, .null, .int 0, .null, .int 0, .int 0]))] := hD
  refine lv_dup hx hb dL_law__11 rfl ?_
  refine cj_v (wr := [(q_1, .inr (11, [.ref (u1.1 0), .ref (u1.1 1), .ref (u1.1 2), .int 0, .int 0, .ref (u1.1 5), .ref (u1.1 6), .ref (u1.1 7), .ref (u1.1 8), .ref (u1.1 9), .int 0, .ref (u1.1 11), .ref (u1.1 12), .ref (u1.1 13)])), ((u1.1 7), .inr (4, [.int 0, .ref (u1.1 41), .int 0, .ref (u1.1 42), .ref (u1.1 43)])), ((u1.1 13), .inl (cy 0, 4, .inl (fun _ => 0)))]) (va_runI (As := []) (rest := [.ref q_2]) ⟨hx, hb, hml, hown, hts⟩ (c_M_town l hl D cy sa q_2 H.size) (cwI 0 hts gl_X12_init rfl rfl rfl ini_RX12 ml120 im_X12_init rfl (by decide +kernel) ⟨Nat.le_of_ble_eq_true rfl, Nat.le_of_ble_eq_true rfl⟩) ⟨pcW.blind, (pcW.mk hP hD hS hA hG hT [3] rfl (by decide))⟩ rfl rfl hlv.1 rfl (lv_room (Nat.le_of_ble_eq_true rfl)) dL_law__12 ⟨Nat.le_of_ble_eq_true rfl, Nat.le_of_ble_eq_true rfl⟩) hP hD hS hA [3] [0, 1, 2] rfl rfl (by decide) (by decide) (fun u2 H locs hw2 hP hD hS => ?_)
  have hP : va_P D vwCl [(q_1, .inr (11, [.ref (u1.1 0), .ref (u1.1 1), .ref (u1.1 2), .int 0, .int 0, .ref (u1.1 5), .ref (u1.1 6), .ref (u1.1 7), .ref (u1.1 8), .ref (u1.1 9), .int 0, .ref (u1.1 11), .ref (u1.1 12), .ref (u1.1 13)])), ((u1.1 7), .inr (4, [.int 0, .ref (u1.1 41), .int 0, .ref (u1.1 42), .ref (u1.1 43)])), ((u1.1 13), .inl (cy 0, 4, .inl (fun _ => 0))), (q_2, .inr (12, [.int 0, .ref (u2.1 1), .int 0, .int 0, .int 0, .int 0, .int 0, .int 0, .int (-1), .ref (u2.1 9), .ref (u2.1 10), .ref (u2.1 11), .ref (u2.1 12), .ref (u2.1 13), .ref (u2.1 14), .ref (u2.1 15), .int 0, .int 0, .int 0, .ref (u2.1 19), .ref (u2.1 20), .ref (u2.1 21), .int 0, .ref (u2.1 23), .ref (u2.1 24), .ref (u2.1 25), .ref (u2.1 26), .ref (u2.1 27), .ref (u2.1 28), .int 0, .int 0, .int 0, .int 0, .ref (u2.1 33), .int (-1), .ref (u2.1 35), .int 0, .int 0])), ((u2.1 1), .inl (cy 0, 4, .inl (fun _ => 0))), ((u2.1 12), .inl (cy 0, 389, .inl sF))] H := hP
  have hD : va_D A [(q_1, .inr (11, [.ref (u1.1 0), .ref (u1.1 1), .ref (u1.1 2), .int 0, .int 0, .ref (u1.1 5), .ref (u1.1 6), .ref (u1.1 7), .ref (u1.1 8), .ref (u1.1 9), .int 0, .ref (u1.1 11), .ref (u1.1 12), .ref (u1.1 13)])), ((u1.1 7), .inr (4, [.int 0, .ref (u1.1 41), .int 0, .ref (u1.1 42), .ref (u1.1 43)])), ((u1.1 13), .inl (cy 0, 4, .inl (fun _ => 0))), (q_2, .inr (12, [.int 0, .ref (u2.1 1), .int 0, .int 0, .int 0, .int 0, .int 0, .int 0, .int (-1), .ref (u2.1 9), .ref (u2.1 10), .ref (u2.1 11), .ref (u2.1 12), .ref (u2.1 13), .ref (u2.1 14), .ref (u2.1 15), .int 0, .int 0, .int 0, .ref (u2.1 19), .ref (u2.1 20), .ref (u2.1 21), .int 0, .ref (u2.1 23), .ref (u2.1 24), .ref (u2.1 25), .ref (u2.1 26), .ref (u2.1 27), .ref (u2.1 28), .int 0, .int 0, .int 0, .int 0, .ref (u2.1 33), .int (-1), .ref (u2.1 35), .int 0, .int 0])), ((u2.1 1), .inl (cy 0, 4, .inl (fun _ => 0))), ((u2.1 12), .inl (cy 0, 389, .inl sF))] := hD
  refine lv_astore_n (lv' := [(2, .ref q_2), (1, .ref q_1), (0, .ref b)]) hx hb dL_law__15 rfl hlv (by decide) rfl (fun ls hlv => ?_)
  refine lv_iconst (v := 1) hx hb dL_law__16 (by decide) ?_
  refine nw_a (atype := .long) (cy := cy) (a0 := (1, .inr (.inl (fun _ => 0)))) (N' := 1) hx hb ac2 (ty := .long) rfl 2 rfl (fun C h => nomatch h) hG.1 hP hD hS hA (fun cA => rfl) (by decide) (by decide) (Nat.le_of_ble_eq_true rfl) (Nat.le_of_ble_eq_true rfl) (Nat.le_of_ble_eq_true rfl) dL_law__17 (fun q_3 H hP hD hS => ?_)
  have hP : va_P D vwCl [(q_1, .inr (11, [.ref (u1.1 0), .ref (u1.1 1), .ref (u1.1 2), .int 0, .int 0, .ref (u1.1 5), .ref (u1.1 6), .ref (u1.1 7), .ref (u1.1 8), .ref (u1.1 9), .int 0, .ref (u1.1 11), .ref (u1.1 12), .ref (u1.1 13)])), ((u1.1 7), .inr (4, [.int 0, .ref (u1.1 41), .int 0, .ref (u1.1 42), .ref (u1.1 43)])), ((u1.1 13), .inl (cy 0, 4, .inl (fun _ => 0))), (q_2, .inr (12, [.int 0, .ref (u2.1 1), .int 0, .int 0, .int 0, .int 0, .int 0, .int 0, .int (-1), .ref (u2.1 9), .ref (u2.1 10), .ref (u2.1 11), .ref (u2.1 12), .ref (u2.1 13), .ref (u2.1 14), .ref (u2.1 15), .int 0, .int 0, .int 0, .ref (u2.1 19), .ref (u2.1 20), .ref (u2.1 21), .int 0, .ref (u2.1 23), .ref (u2.1 24), .ref (u2.1 25), .ref (u2.1 26), .ref (u2.1 27), .ref (u2.1 28), .int 0, .int 0, .int 0, .int 0, .ref (u2.1 33), .int (-1), .ref (u2.1 35), .int 0, .int 0])), ((u2.1 1), .inl (cy 0, 4, .inl (fun _ => 0))), ((u2.1 12), .inl (cy 0, 389, .inl sF)), (q_3, .inl (cy 2, 1, .inr (.inl (fun _ => 0))))] H := hP
  have hD : va_D A [(q_1, .inr (11, [.ref (u1.1 0), .ref (u1.1 1), .ref (u1.1 2), .int 0, .int 0, .ref (u1.1 5), .ref (u1.1 6), .ref (u1.1 7), .ref (u1.1 8), .ref (u1.1 9), .int 0, .ref (u1.1 11), .ref (u1.1 12), .ref (u1.1 13)])), ((u1.1 7), .inr (4, [.int 0, .ref (u1.1 41), .int 0, .ref (u1.1 42), .ref (u1.1 43)])), ((u1.1 13), .inl (cy 0, 4, .inl (fun _ => 0))), (q_2, .inr (12, [.int 0, .ref (u2.1 1), .int 0, .int 0, .int 0, .int 0, .int 0, .int 0, .int (-1), .ref (u2.1 9), .ref (u2.1 10), .ref (u2.1 11), .ref (u2.1 12), .ref (u2.1 13), .ref (u2.1 14), .ref (u2.1 15), .int 0, .int 0, .int 0, .ref (u2.1 19), .ref (u2.1 20), .ref (u2.1 21), .int 0, .ref (u2.1 23), .ref (u2.1 24), .ref (u2.1 25), .ref (u2.1 26), .ref (u2.1 27), .ref (u2.1 28), .int 0, .int 0, .int 0, .int 0, .ref (u2.1 33), .int (-1), .ref (u2.1 35), .int 0, .int 0])), ((u2.1 1), .inl (cy 0, 4, .inl (fun _ => 0))), ((u2.1 12), .inl (cy 0, 389, .inl sF)), (q_3, .inl (cy 2, 1, .inr (.inl (fun _ => 0))))] := hD
  refine lv_astore_n (lv' := [(3, .ref q_3), (2, .ref q_2), (1, .ref q_1), (0, .ref b)]) hx hb dL_law__19 rfl hlv (by decide) rfl (fun ls hlv => ?_)
  refine lv_iconst (v := 0) hx hb dL_law__20 (by decide) ?_
  refine lv_istore (lv' := [(4, .int 0), (3, .ref q_3), (2, .ref q_2), (1, .ref q_1), (0, .ref b)]) hx hb dL_law__21 hlv (by decide) rfl (fun ls hlv => ?_)
  refine lv_iload hx hb dL_law__23 (lv_at hlv 0 rfl) ?_
  refine lv_aload_n hx hb dL_law__25 rfl (lv_at hlv 4 rfl) ?_
  refine va_slen hx hb hX hbl hbA hS dL_law__26 ?_
  refine lt_i (y := 10) (by decide) ?_
  refine lv_bipush (v := 10) hx hb dL_law__27 (by decide) ?_
  refine lv_isub hx hb dL_law__29 ?_
  refine lt_i (y := 0) (by decide) ?_
  refine lv_icmp_gt (tgt := 2761) hx hb dL_law__30 (by decide) (fun c => absurd c (by decide)) (fun _ => ?_)
  refine lv_aload_n hx hb dL_law__33 rfl (lv_at hlv 4 rfl) ?_
  refine lv_iload hx hb dL_law__34 (lv_at hlv 0 rfl) ?_
  refine va_sld hx hb hX hbl hbA hS (vpd (by decide)) dL_law__36 ?_
  refine lt_i (y := xs 0) rfl ?_
  refine lv_bipush (v := 63) hx hb dL_law__37 (by decide) ?_
  refine lv_iand hx hb dL_law__39 ?_
  refine lt_i (y := 31) h63 ?_
  refine lv_tableIn (tgt := 2499) hx hb dL_law__40 (by decide) (by decide) rfl (by decide) ?_
  refine lv_aload_n hx hb dL_law__2499 rfl (lv_at hlv 3 rfl) ?_
  refine lv_aload_n hx hb dL_law__2500 rfl (lv_at hlv 4 rfl) ?_
  refine lv_iload hx hb dL_law__2501 (lv_at hlv 0 rfl) ?_
  refine lv_iconst (v := 1) hx hb dL_law__2503 (by decide) ?_
  refine lv_iadd hx hb dL_law__2504 ?_
  refine lt_i (y := 1) (by decide) ?_
  refine va_sld hx hb hX hbl hbA hS (vpd (by decide)) dL_law__2505 ?_
  refine lt_i (y := xs 1) rfl ?_
  refine lv_aload_n hx hb dL_law__2506 rfl (lv_at hlv 1 rfl) ?_
  refine cj_i (wr := [(q_2, .inr (12, [.int 0, .ref (u2.1 1), .int 0, .int 0, .int 0, .int 0, .int 0, .int 0, .int (-1), .ref (u2.1 9), .ref (u2.1 10), .ref (u2.1 11), .ref (u2.1 12), .ref (u2.1 13), .ref (u2.1 14), .ref (u2.1 15), .int 0, .int 0, .int 0, .ref (u2.1 19), .ref (u2.1 20), .ref (u2.1 21), .int 0, .ref (u2.1 23), .ref (u2.1 24), .ref (u2.1 25), .ref (u2.1 26), .ref (u2.1 27), .ref (u2.1 28), .int 0, .int 0, .int 0, .int 0, .ref (u2.1 33), .int (-1), .ref (u2.1 35), .int 0, .int 0])), ((u2.1 1), .inl (cy 0, 4, .inl (fun _ => 0))), ((u2.1 12), .inl (cy 0, 389, .inl sF))]) (vx_runSW (As := [.ref q_1, .int (xs 1), .ref q_3]) (rest := []) ⟨hx, hb, hml, hown, hts⟩ (w_town l hl D cy sa q_1 u1.1 (xs 1) q_3 H.size) (vx_cwSW 3 hts gl_w_town rfl rfl rfl (by decide +kernel) ⟨Nat.le_of_ble_eq_true rfl, Nat.le_of_ble_eq_true rfl⟩) ⟨pcW.blind, (pcW.mk hP hD hS hA hG hT [0, 1, 2, 6] rfl (by decide))⟩ rfl rfl hlv.1 rfl (lv_room (Nat.le_of_ble_eq_true rfl)) dL_law__2507 ⟨Nat.le_of_ble_eq_true rfl, Nat.le_of_ble_eq_true rfl⟩) hP hD hS hA [0, 1, 2, 6] [3, 4, 5] rfl rfl (by decide) (by decide) (fun r3 u3 H locs hw3 hP hD hS => ?_)
  rcases hw3 with ⟨hg3, rfl, he3_0⟩ | ⟨hg3, rfl⟩
  · rw [he3_0] at hP hD
    have hP : va_P D vwCl [(q_2, .inr (12, [.int 0, .ref (u2.1 1), .int 0, .int 0, .int 0, .int 0, .int 0, .int 0, .int (-1), .ref (u2.1 9), .ref (u2.1 10), .ref (u2.1 11), .ref (u2.1 12), .ref (u2.1 13), .ref (u2.1 14), .ref (u2.1 15), .int 0, .int 0, .int 0, .ref (u2.1 19), .ref (u2.1 20), .ref (u2.1 21), .int 0, .ref (u2.1 23), .ref (u2.1 24), .ref (u2.1 25), .ref (u2.1 26), .ref (u2.1 27), .ref (u2.1 28), .int 0, .int 0, .int 0, .int 0, .ref (u2.1 33), .int (-1), .ref (u2.1 35), .int 0, .int 0])), ((u2.1 1), .inl (cy 0, 4, .inl (fun _ => 0))), ((u2.1 12), .inl (cy 0, 389, .inl sF)), (q_3, .inl (cy 2, 1, .inr (.inl (fun _ => ((-1) : Int32).toInt64))))] H := hP
    have hD : va_D A [(q_2, .inr (12, [.int 0, .ref (u2.1 1), .int 0, .int 0, .int 0, .int 0, .int 0, .int 0, .int (-1), .ref (u2.1 9), .ref (u2.1 10), .ref (u2.1 11), .ref (u2.1 12), .ref (u2.1 13), .ref (u2.1 14), .ref (u2.1 15), .int 0, .int 0, .int 0, .ref (u2.1 19), .ref (u2.1 20), .ref (u2.1 21), .int 0, .ref (u2.1 23), .ref (u2.1 24), .ref (u2.1 25), .ref (u2.1 26), .ref (u2.1 27), .ref (u2.1 28), .int 0, .int 0, .int 0, .int 0, .ref (u2.1 33), .int (-1), .ref (u2.1 35), .int 0, .int 0])), ((u2.1 1), .inl (cy 0, 4, .inl (fun _ => 0))), ((u2.1 12), .inl (cy 0, 389, .inl sF)), (q_3, .inl (cy 2, 1, .inr (.inl (fun _ => ((-1) : Int32).toInt64))))] := hD
    refine lv_istore (lv' := [(5, .int 0), (4, .int 0), (3, .ref q_3), (2, .ref q_2), (1, .ref q_1), (0, .ref b)]) hx hb dL_law__2510 hlv (by decide) rfl (fun ls hlv => ?_)
    refine lv_aload_n hx hb dL_law__2512 rfl (lv_at hlv 3 rfl) ?_
    refine lv_aload_n hx hb dL_law__2513 rfl (lv_at hlv 5 rfl) ?_
    refine lv_iload hx hb dL_law__2514 (lv_at hlv 1 rfl) ?_
    refine lv_iconst (v := 1) hx hb dL_law__2516 (by decide) ?_
    refine lv_iadd hx hb dL_law__2517 ?_
    refine lt_i (y := 1) (by decide) ?_
    refine va_sld hx hb hX hbl hbA hS (vpd (by decide)) dL_law__2518 ?_
    refine lt_i (y := xs 1) rfl ?_
    refine cj_i (wr := [(q_3, .inl (cy 2, 1, .inr (.inl (fun _ => ((-1) : Int32).toInt64))))]) (va_runV (As := [.int (xs 1)]) (rest := []) ⟨hx, hb, hml, hown, hts⟩ (m_town l hl D cy sa q_2 u2.1 (xs 1) H.size) (cwV 1 hts gl_m_town rfl rfl rfl (by decide +kernel) ⟨Nat.le_of_ble_eq_true rfl, Nat.le_of_ble_eq_true rfl⟩) ⟨pcW.blind, (va_recv hG.1 hP (ci := 12) (q0 := 0) rfl rfl), (pcW.mk hP hD hS hA hG hT [0, 1, 2] rfl (by decide))⟩ rfl rfl hlv.1 rfl (lv_room (Nat.le_of_ble_eq_true rfl)) dL_law__2519 ⟨Nat.le_of_ble_eq_true rfl, Nat.le_of_ble_eq_true rfl⟩) hP hD hS hA [0, 1, 2] [3] rfl rfl (by decide) (by decide) (fun r4 u4 H locs hw4 hP hD hS => ?_)
    rcases hw4 with ⟨hg4, rfl, he4_0⟩ | ⟨hg4, rfl, he4_0⟩
    · exact absurd hg4 (fun q => absurd hg3 q)
    · rw [he4_0] at hP hD
      have hP : va_P D vwCl [(q_3, .inl (cy 2, 1, .inr (.inl (fun _ => ((-1) : Int32).toInt64)))), (q_2, .inr (12, [.int 0, .ref (u2.1 1), .int 0, .int 0, .int 0, .int 0, .int 0, .int 0, .int (-1), .ref (u2.1 9), .ref (u2.1 10), .ref (u2.1 11), .ref (u2.1 12), .ref (u2.1 13), .ref (u2.1 14), .ref (u2.1 15), .int 0, .int 0, .int 0, .ref (u2.1 19), .ref (u2.1 20), .ref (u2.1 21), .int 0, .ref (u2.1 23), .ref (u2.1 24), .ref (u2.1 25), .ref (u2.1 26), .ref (u2.1 27), .ref (u2.1 28), .int 0, .int 0, .int 0, .int 0, .ref (u2.1 33), .int (-1), .ref (u2.1 35), .int 0, .int 0]))] H := hP
      have hD : va_D A [(q_3, .inl (cy 2, 1, .inr (.inl (fun _ => ((-1) : Int32).toInt64)))), (q_2, .inr (12, [.int 0, .ref (u2.1 1), .int 0, .int 0, .int 0, .int 0, .int 0, .int 0, .int (-1), .ref (u2.1 9), .ref (u2.1 10), .ref (u2.1 11), .ref (u2.1 12), .ref (u2.1 13), .ref (u2.1 14), .ref (u2.1 15), .int 0, .int 0, .int 0, .ref (u2.1 19), .ref (u2.1 20), .ref (u2.1 21), .int 0, .ref (u2.1 23), .ref (u2.1 24), .ref (u2.1 25), .ref (u2.1 26), .ref (u2.1 27), .ref (u2.1 28), .int 0, .int 0, .int 0, .int 0, .ref (u2.1 33), .int (-1), .ref (u2.1 35), .int 0, .int 0]))] := hD
      refine lv_istore (lv' := [(6, .int (-1)), (5, .int 0), (4, .int 0), (3, .ref q_3), (2, .ref q_2), (1, .ref q_1), (0, .ref b)]) hx hb dL_law__2522 hlv (by decide) rfl (fun ls hlv => ?_)
      refine lv_aload_n hx hb dL_law__2524 rfl (lv_at hlv 4 rfl) ?_
      refine cj_i (wr := [(q_3, .inl (cy 2, 1, .inr (.inl (fun _ => ((-1) : Int32).toInt64))))]) (va_runV (As := []) (rest := []) ⟨hx, hb, hml, hown, hts⟩ (c_thrown l hl D cy sa q_2 u2.1 0 0 0 0 0 0 0 (-1) 0 0 0 0 0 0 0 0 (-1) 0 0 H.size) (cwV 0 hts gl_c_thrown rfl rfl rfl (by decide +kernel) ⟨Nat.le_of_ble_eq_true rfl, Nat.le_of_ble_eq_true rfl⟩) ⟨pcW.blind, (va_recv hG.1 hP (ci := 12) (q0 := 1) rfl rfl), (pcW.mk hP hD hS hA hG hT [1] rfl (by decide))⟩ rfl rfl hlv.1 rfl (lv_room (Nat.le_of_ble_eq_true rfl)) dL_law__2525 ⟨Nat.le_of_ble_eq_true rfl, Nat.le_of_ble_eq_true rfl⟩) hP hD hS hA [1] [0] rfl rfl (by decide) (by decide) (fun r5 u5 H locs hw5 hP hD hS => ?_)
      obtain rfl := hw5
      have hP : va_P D vwCl [(q_3, .inl (cy 2, 1, .inr (.inl (fun _ => ((-1) : Int32).toInt64))))] H := hP
      have hD : va_D A [(q_3, .inl (cy 2, 1, .inr (.inl (fun _ => ((-1) : Int32).toInt64))))] := hD
      refine lv_iload hx hb dL_law__2528 (lv_at hlv 1 rfl) ?_
      refine lv_icmp_eq (tgt := 2535) hx hb dL_law__2530 (by decide) (fun _ => ?_) (fun c => absurd (by decide) c)
      refine lv_iload hx hb dL_law__2535 (lv_at hlv 1 rfl) ?_
      refine lv_if_ne (tgt := 2552) hx hb dL_law__2537 (by decide) (fun c => absurd (by decide) c) (fun _ => ?_)
      refine lv_aload_n hx hb dL_law__2540 rfl (lv_at hlv 3 rfl) ?_
      refine lv_iconst (v := 0) hx hb dL_law__2541 (by decide) ?_
      refine va_lald hx hb hG.1 hP 0 2 rfl rfl (vpd (by decide)) dL_law__2542 ?_
      refine ltv (y := .long (((-1) : Int32).toInt64)) rfl ?_
      refine lv_iload hx hb dL_law__2543 (lv_at hlv 0 rfl) ?_
      refine lv_i2l (v := ((-1) : Int32).toInt64) hx hb dL_law__2545 rfl ?_
      refine W.lcmp hx hb dL_law__2546 ?_
      refine lt_i (y := 0) (lcmp_self _) ?_
      refine lv_if_eq (tgt := 2552) hx hb dL_law__2547 (by decide) (fun _ => ?_) (fun c => absurd (by decide) c)
      refine lv_goto (tgt := 2755) hx hb dL_law__2552 (by decide) ?_
      refine lv_iinc (v := 10) (lv' := [(4, .int 10), (6, .int (-1)), (5, .int 0), (3, .ref q_3), (2, .ref q_2), (1, .ref q_1), (0, .ref b)]) hx hb dL_law__2755 hlv (k := 2) rfl (by decide) (by decide) rfl (fun ls hlv => ?_)
      refine lv_goto (tgt := 23) hx hb dL_law__2758 (by decide) ?_
      refine lv_iload hx hb dL_law__23 (lv_at hlv 0 rfl) ?_
      refine lv_aload_n hx hb dL_law__25 rfl (lv_at hlv 6 rfl) ?_
      refine va_slen hx hb hX hbl hbA hS dL_law__26 ?_
      refine lt_i (y := 10) (by decide) ?_
      refine lv_bipush (v := 10) hx hb dL_law__27 (by decide) ?_
      refine lv_isub hx hb dL_law__29 ?_
      refine lt_i (y := 0) (by decide) ?_
      refine lv_icmp_gt (tgt := 2761) hx hb dL_law__30 (by decide) (fun _ => ?_) (fun c => absurd (by decide) c)
      refine lv_iconst (v := 1) hx hb dL_law__2761 (by decide) ?_
      refine va_forget (fun q hq => by have h9 := hS.2.2 q hq; rw [hAe] at h9; exact h9) ?_
      refine W.widen (k := 600002) (n := 7302232) (Nat.le_of_ble_eq_true rfl) (Nat.le_of_ble_eq_true rfl) ?_
      exact lw_ret hx hb hr hlocks dL_law__2762
  · have hP : va_P D vwCl [(q_2, .inr (12, [.int 0, .ref (u2.1 1), .int 0, .int 0, .int 0, .int 0, .int 0, .int 0, .int (-1), .ref (u2.1 9), .ref (u2.1 10), .ref (u2.1 11), .ref (u2.1 12), .ref (u2.1 13), .ref (u2.1 14), .ref (u2.1 15), .int 0, .int 0, .int 0, .ref (u2.1 19), .ref (u2.1 20), .ref (u2.1 21), .int 0, .ref (u2.1 23), .ref (u2.1 24), .ref (u2.1 25), .ref (u2.1 26), .ref (u2.1 27), .ref (u2.1 28), .int 0, .int 0, .int 0, .int 0, .ref (u2.1 33), .int (-1), .ref (u2.1 35), .int 0, .int 0])), ((u2.1 1), .inl (cy 0, 4, .inl (fun _ => 0))), ((u2.1 12), .inl (cy 0, 389, .inl sF)), (q_3, .inl (cy 2, 1, .inr (.inl (fun _ => (u3.2.1 0 : Int32).toInt64))))] H := hP
    have hD : va_D A [(q_2, .inr (12, [.int 0, .ref (u2.1 1), .int 0, .int 0, .int 0, .int 0, .int 0, .int 0, .int (-1), .ref (u2.1 9), .ref (u2.1 10), .ref (u2.1 11), .ref (u2.1 12), .ref (u2.1 13), .ref (u2.1 14), .ref (u2.1 15), .int 0, .int 0, .int 0, .ref (u2.1 19), .ref (u2.1 20), .ref (u2.1 21), .int 0, .ref (u2.1 23), .ref (u2.1 24), .ref (u2.1 25), .ref (u2.1 26), .ref (u2.1 27), .ref (u2.1 28), .int 0, .int 0, .int 0, .int 0, .ref (u2.1 33), .int (-1), .ref (u2.1 35), .int 0, .int 0])), ((u2.1 1), .inl (cy 0, 4, .inl (fun _ => 0))), ((u2.1 12), .inl (cy 0, 389, .inl sF)), (q_3, .inl (cy 2, 1, .inr (.inl (fun _ => (u3.2.1 0 : Int32).toInt64))))] := hD
    refine lv_istore (lv' := [(5, .int 1), (4, .int 0), (3, .ref q_3), (2, .ref q_2), (1, .ref q_1), (0, .ref b)]) hx hb dL_law__2510 hlv (by decide) rfl (fun ls hlv => ?_)
    refine lv_aload_n hx hb dL_law__2512 rfl (lv_at hlv 3 rfl) ?_
    refine lv_aload_n hx hb dL_law__2513 rfl (lv_at hlv 5 rfl) ?_
    refine lv_iload hx hb dL_law__2514 (lv_at hlv 1 rfl) ?_
    refine lv_iconst (v := 1) hx hb dL_law__2516 (by decide) ?_
    refine lv_iadd hx hb dL_law__2517 ?_
    refine lt_i (y := 1) (by decide) ?_
    refine va_sld hx hb hX hbl hbA hS (vpd (by decide)) dL_law__2518 ?_
    refine lt_i (y := xs 1) rfl ?_
    refine cj_i (wr := [(q_3, .inl (cy 2, 1, .inr (.inl (fun _ => (u3.2.1 0 : Int32).toInt64))))]) (va_runV (As := [.int (xs 1)]) (rest := []) ⟨hx, hb, hml, hown, hts⟩ (m_town l hl D cy sa q_2 u2.1 (xs 1) H.size) (cwV 1 hts gl_m_town rfl rfl rfl (by decide +kernel) ⟨Nat.le_of_ble_eq_true rfl, Nat.le_of_ble_eq_true rfl⟩) ⟨pcW.blind, (va_recv hG.1 hP (ci := 12) (q0 := 0) rfl rfl), (pcW.mk hP hD hS hA hG hT [0, 1, 2] rfl (by decide))⟩ rfl rfl hlv.1 rfl (lv_room (Nat.le_of_ble_eq_true rfl)) dL_law__2519 ⟨Nat.le_of_ble_eq_true rfl, Nat.le_of_ble_eq_true rfl⟩) hP hD hS hA [0, 1, 2] [3] rfl rfl (by decide) (by decide) (fun r6 u6 H locs hw6 hP hD hS => ?_)
    rcases hw6 with ⟨hg6, rfl, he6_0⟩ | ⟨hg6, rfl, he6_0⟩
    · rw [he6_0] at hP hD
      have hP : va_P D vwCl [(q_3, .inl (cy 2, 1, .inr (.inl (fun _ => (u3.2.1 0 : Int32).toInt64)))), (q_2, .inr (12, [.int 1, .ref (u2.1 1), .int 0, .int 0, .int 0, .int 0, .int 0, .int 0, .int (-1), .ref (u2.1 9), .ref (u2.1 10), .ref (u2.1 11), .ref (u2.1 12), .ref (u2.1 13), .ref (u2.1 14), .ref (u2.1 15), .int 0, .int 0, .int 0, .ref (u2.1 19), .ref (u2.1 20), .ref (u2.1 21), .int 0, .ref (u2.1 23), .ref (u2.1 24), .ref (u2.1 25), .ref (u2.1 26), .ref (u2.1 27), .ref (u2.1 28), .int 0, .int 0, .int 0, .int 0, .ref (u2.1 33), .int (-1), .ref (u2.1 35), .int 0, .int 0]))] H := hP
      have hD : va_D A [(q_3, .inl (cy 2, 1, .inr (.inl (fun _ => (u3.2.1 0 : Int32).toInt64)))), (q_2, .inr (12, [.int 1, .ref (u2.1 1), .int 0, .int 0, .int 0, .int 0, .int 0, .int 0, .int (-1), .ref (u2.1 9), .ref (u2.1 10), .ref (u2.1 11), .ref (u2.1 12), .ref (u2.1 13), .ref (u2.1 14), .ref (u2.1 15), .int 0, .int 0, .int 0, .ref (u2.1 19), .ref (u2.1 20), .ref (u2.1 21), .int 0, .ref (u2.1 23), .ref (u2.1 24), .ref (u2.1 25), .ref (u2.1 26), .ref (u2.1 27), .ref (u2.1 28), .int 0, .int 0, .int 0, .int 0, .ref (u2.1 33), .int (-1), .ref (u2.1 35), .int 0, .int 0]))] := hD
      refine lv_istore (lv' := [(6, .int 0), (5, .int 1), (4, .int 0), (3, .ref q_3), (2, .ref q_2), (1, .ref q_1), (0, .ref b)]) hx hb dL_law__2522 hlv (by decide) rfl (fun ls hlv => ?_)
      refine lv_aload_n hx hb dL_law__2524 rfl (lv_at hlv 4 rfl) ?_
      refine cj_i (wr := [(q_3, .inl (cy 2, 1, .inr (.inl (fun _ => (u3.2.1 0 : Int32).toInt64))))]) (va_runV (As := []) (rest := []) ⟨hx, hb, hml, hown, hts⟩ (c_thrown l hl D cy sa q_2 u2.1 1 0 0 0 0 0 0 (-1) 0 0 0 0 0 0 0 0 (-1) 0 0 H.size) (cwV 0 hts gl_c_thrown rfl rfl rfl (by decide +kernel) ⟨Nat.le_of_ble_eq_true rfl, Nat.le_of_ble_eq_true rfl⟩) ⟨pcW.blind, (va_recv hG.1 hP (ci := 12) (q0 := 1) rfl rfl), (pcW.mk hP hD hS hA hG hT [1] rfl (by decide))⟩ rfl rfl hlv.1 rfl (lv_room (Nat.le_of_ble_eq_true rfl)) dL_law__2525 ⟨Nat.le_of_ble_eq_true rfl, Nat.le_of_ble_eq_true rfl⟩) hP hD hS hA [1] [0] rfl rfl (by decide) (by decide) (fun r7 u7 H locs hw7 hP hD hS => ?_)
      obtain rfl := hw7
      have hP : va_P D vwCl [(q_3, .inl (cy 2, 1, .inr (.inl (fun _ => (u3.2.1 0 : Int32).toInt64))))] H := hP
      have hD : va_D A [(q_3, .inl (cy 2, 1, .inr (.inl (fun _ => (u3.2.1 0 : Int32).toInt64))))] := hD
      refine lv_iload hx hb dL_law__2528 (lv_at hlv 1 rfl) ?_
      refine lv_icmp_eq (tgt := 2535) hx hb dL_law__2530 (by decide) (fun _ => ?_) (fun c => absurd (by decide) c)
      refine lv_iload hx hb dL_law__2535 (lv_at hlv 1 rfl) ?_
      refine lv_if_ne (tgt := 2552) hx hb dL_law__2537 (by decide) (fun _ => ?_) (fun c => absurd c (by decide))
      refine lv_goto (tgt := 2755) hx hb dL_law__2552 (by decide) ?_
      refine lv_iinc (v := 10) (lv' := [(4, .int 10), (6, .int 0), (5, .int 1), (3, .ref q_3), (2, .ref q_2), (1, .ref q_1), (0, .ref b)]) hx hb dL_law__2755 hlv (k := 2) rfl (by decide) (by decide) rfl (fun ls hlv => ?_)
      refine lv_goto (tgt := 23) hx hb dL_law__2758 (by decide) ?_
      refine lv_iload hx hb dL_law__23 (lv_at hlv 0 rfl) ?_
      refine lv_aload_n hx hb dL_law__25 rfl (lv_at hlv 6 rfl) ?_
      refine va_slen hx hb hX hbl hbA hS dL_law__26 ?_
      refine lt_i (y := 10) (by decide) ?_
      refine lv_bipush (v := 10) hx hb dL_law__27 (by decide) ?_
      refine lv_isub hx hb dL_law__29 ?_
      refine lt_i (y := 0) (by decide) ?_
      refine lv_icmp_gt (tgt := 2761) hx hb dL_law__30 (by decide) (fun _ => ?_) (fun c => absurd (by decide) c)
      refine lv_iconst (v := 1) hx hb dL_law__2761 (by decide) ?_
      refine va_forget (fun q hq => by have h9 := hS.2.2 q hq; rw [hAe] at h9; exact h9) ?_
      refine W.widen (k := 600002) (n := 7302232) (Nat.le_of_ble_eq_true rfl) (Nat.le_of_ble_eq_true rfl) ?_
      exact lw_ret hx hb hr hlocks dL_law__2762
    · exact absurd hg6 hg3
set_option maxHeartbeats 4000000 in
set_option maxRecDepth 100000 in
theorem law_sweep {p : Program} {e : Env} {s : State} {m : MethodId} {below : List Frame} {meth : Method} {c : Code} (l : Launch) (hl : l.stackTraces = false) {b : Nat} {xs : Nat → Int32} {D : va_G} {cy : Nat → ClassId} {sa : Nat → Nat} {A : Nat → Prop} (hAe : A = fun q => s.heap.size ≤ q) (C0 : lw_At p s m meth c b 10 xs) (hG : GC D cy sa s) (hT : TH A s s.heap) (h63 : xs 0 &&& 63 = 32) : W p l e room_1 s m #[Value.ref b] below meth c s.heap [] 0 0 (lw_Z below #[Value.ref b] s) (entryFrame m ([Value.ref b] : List Value).toArray 7) := by
  obtain ⟨hx, hb, hr, hml, hown0, hts0, hX, hbl, hlocks, hgv⟩ := id C0
  have hown : s.vm.findClass RL = some m.cls := hown0
  have hts := hts0
  have hA : ∀ q : Nat, s.heap.size ≤ q → A q := fun q h => by rw [hAe]; exact h
  have hbA : ¬ A b := by rw [hAe]; exact Nat.not_le.mpr hbl
  have hS : va_S A s.heap s.heap [] := va_S.rf
  have hP : va_P D vwCl [] s.heap := fun k q h => by simp at h
  have hD : va_D A [] := ⟨fun i j p q h => by simp at h, fun k q h => by simp at h⟩
  have hl0 := lv_entry ([.ref b]) (n := 7) (Nat.le_of_ble_eq_true rfl)
  rw [lg_entry_eq]
  generalize (lg_sl ([.ref b]) ++ List.replicate (7 - (lg_sl ([.ref b])).length) Slot.unset).toArray = ls at hl0 ⊢
  have hlv : lv_has ls 7 [(0, .ref b)] := hl0
  have cl8 := hts (.classLink RL 8 RX11) lwd_0
  have in11 := hts (.instantiable RX11 14) lwd_1
  have ini11 := hts (.initialized RX11) lwd_2
  have ini_RX11 := hts (.initialized RX11) lwd_2
  have ml117 := hts (.methodLink RL 117 yX11_init) lwd_3
  have im_X11_init := hts (.instanceMethod yX11_init) lwd_4
  have cl118 := hts (.classLink RL 118 RX12) lwd_5
  have in12 := hts (.instantiable RX12 38) lwd_6
  have ini12 := hts (.initialized RX12) lwd_7
  have ini_RX12 := hts (.initialized RX12) lwd_7
  have ml120 := hts (.methodLink RL 120 yX12_init) lwd_8
  have im_X12_init := hts (.instanceMethod yX12_init) lwd_9
  have ac2 := hts (.arrayClass .long) lwd_10
  refine va_new (ci := 11) (fs := [.null, .null, .null, .int 0, .int 0, .null, .null, .null, .null, .null, .int 0, .null, .null, .null]) (C := RX11) (T := TX11) (N := 14) hx hb hts inX11 tyX11 tyX11_ok hown cl8 in11 ini11 hG.1 hP hD hS hA rfl (by decide) (Nat.le_of_ble_eq_true rfl) (Nat.le_of_ble_eq_true rfl) dL_law__0 (fun q_1 H hP hD hS => ?_)
  have hP : va_P D vwCl [(q_1, .inr (11, [.null, .null, .null, .int 0, .int 0, .null, .null, .null, .null, .null, .int 0, .null, .null, .null]))] H := hP
  have hD : va_D A [(q_1, .inr (11, [.null, .null, .null, .int 0, .int 0, .null, .null, .null, .null, .null, .int 0, .null, .null, .null]))] := hD
  refine lv_dup hx hb dL_law__3 rfl ?_
  refine cj_v (wr := []) (va_runI (As := []) (rest := [.ref q_1]) ⟨hx, hb, hml, hown, hts⟩ (c_K_sweep l hl D cy sa q_1 H.size) (cwI 0 hts gl_X11_init rfl rfl rfl ini_RX11 ml117 im_X11_init rfl (by decide +kernel) ⟨Nat.le_of_ble_eq_true rfl, Nat.le_of_ble_eq_true rfl⟩) ⟨pcW.blind, (pcW.mk hP hD hS hA hG hT [0] rfl (by decide))⟩ rfl rfl hlv.1 rfl (lv_room (Nat.le_of_ble_eq_true rfl)) dL_law__4 ⟨Nat.le_of_ble_eq_true rfl, Nat.le_of_ble_eq_true rfl⟩) hP hD hS hA [0] [] rfl rfl (by decide) (by decide) (fun u1 H locs hw1 hP hD hS => ?_)
  have hP : va_P D vwCl [(q_1, .inr (11, [.ref (u1.1 0), .ref (u1.1 1), .ref (u1.1 2), .int 0, .int 0, .ref (u1.1 5), .ref (u1.1 6), .ref (u1.1 7), .ref (u1.1 8), .ref (u1.1 9), .int 0, .ref (u1.1 11), .ref (u1.1 12), .ref (u1.1 13)])), ((u1.1 12), .inr (3, [.int 0, .int 0, .int 0, .ref (u1.1 80)])), ((u1.1 5), .inr (6, [.int 0, .int 0, .ref (u1.1 21), .ref (u1.1 22), .int 0, .int 0, .ref (u1.1 23), .int 0, .ref (u1.1 24), .int 0, .int 0, .ref (u1.1 25), .int 0, .ref (u1.1 26), .int 0, .int 0, .int 0, .int 0, .int 0])), ((u1.1 13), .inl (cy 0, 4, .inl (fun _ => 0)))] H := hP
  have hD : va_D A [(q_1, .inr (11, [.ref (u1.1 0), .ref (u1.1 1), .ref (u1.1 2), .int 0, .int 0, .ref (u1.1 5), .ref (u1.1 6), .ref (u1.1 7), .ref (u1.1 8), .ref (u1.1 9), .int 0, .ref (u1.1 11), .ref (u1.1 12), .ref (u1.1 13)])), ((u1.1 12), .inr (3, [.int 0, .int 0, .int 0, .ref (u1.1 80)])), ((u1.1 5), .inr (6, [.int 0, .int 0, .ref (u1.1 21), .ref (u1.1 22), .int 0, .int 0, .ref (u1.1 23), .int 0, .ref (u1.1 24), .int 0, .int 0, .ref (u1.1 25), .int 0, .ref (u1.1 26), .int 0, .int 0, .int 0, .int 0, .int 0])), ((u1.1 13), .inl (cy 0, 4, .inl (fun _ => 0)))] := hD
  refine lv_astore_n (lv' := [(1, .ref q_1), (0, .ref b)]) hx hb dL_law__7 rfl hlv (by decide) rfl (fun ls hlv => ?_)
  refine va_new (ci := 12) (fs := [.int 0, .null, .int 0, .int 0, .int 0, .int 0, .int 0, .int 0, .int 0, .null, .null, .null, .null, .null, .null, .null, .int 0, .int 0, .int 0, .null, .null, .null, .int 0, .null, .null, .null, .null, .null, .null, .int 0, .int 0, .int 0, .int 0, .null, .int 0, .null, .int 0, .int 0]) (C := RX12) (T := TX12) (N := 38) hx hb hts inX12 tyX12 tyX12_ok hown cl118 in12 ini12 hG.1 hP hD hS hA rfl (by decide) (Nat.le_of_ble_eq_true rfl) (Nat.le_of_ble_eq_true rfl) dL_law__8 (fun q_2 H hP hD hS => ?_)
  have hP : va_P D vwCl [(q_1, .inr (11, [.ref (u1.1 0), .ref (u1.1 1), .ref (u1.1 2), .int 0, .int 0, .ref (u1.1 5), .ref (u1.1 6), .ref (u1.1 7), .ref (u1.1 8), .ref (u1.1 9), .int 0, .ref (u1.1 11), .ref (u1.1 12), .ref (u1.1 13)])), ((u1.1 12), .inr (3, [.int 0, .int 0, .int 0, .ref (u1.1 80)])), ((u1.1 5), .inr (6, [.int 0, .int 0, .ref (u1.1 21), .ref (u1.1 22), .int 0, .int 0, .ref (u1.1 23), .int 0, .ref (u1.1 24), .int 0, .int 0, .ref (u1.1 25), .int 0, .ref (u1.1 26), .int 0, .int 0, .int 0, .int 0, .int 0])), ((u1.1 13), .inl (cy 0, 4, .inl (fun _ => 0))), (q_2, .inr (12, [.int 0, .null, .int 0, .int 0, .int 0, .int 0, .int 0, .int 0, .int 0, .null, .null, .null, .null, .null, .null, .null, .int 0, .int 0, .int 0, .null, .null, .null, .int 0, .null, .null, .null, .null, .null, .null, .int 0, .int 0, .int 0, .int 0, .null, .int 0, .null, .int 0, .int 0]))] H := hP
  have hD : va_D A [(q_1, .inr (11, [.ref (u1.1 0), .ref (u1.1 1), .ref (u1.1 2), .int 0, .int 0, .ref (u1.1 5), .ref (u1.1 6), .ref (u1.1 7), .ref (u1.1 8), .ref (u1.1 9), .int 0, .ref (u1.1 11), .ref (u1.1 12), .ref (u1.1 13)])), ((u1.1 12), .inr (3, [.int 0, .int 0, .int 0, .ref (u1.1 80)])), ((u1.1 5), .inr (6, [.int 0, .int 0, .ref (u1.1 21), .ref (u1.1 22), .int 0, .int 0, .ref (u1.1 23), .int 0, .ref (u1.1 24), .int 0, .int 0, .ref (u1.1 25), .int 0, .ref (u1.1 26), .int 0, .int 0, .int 0, .int 0, .int 0])), ((u1.1 13), .inl (cy 0, 4, .inl (fun _ => 0))), (q_2, .inr (12, [.int 0, .null, .int 0, .int 0, .int 0, .int 0, .int 0, .int 0, .int 0, .null, .null, .null, .null, .null, .null, .null, .int 0, .int 0, .int 0, .null, .null, .null, .int 0, .null, .null, .null, .null, .null, .null, .int 0, .int 0, .int 0, .int 0, .null, .int 0, .null, .int 0, .int 0]))] := hD
  refine lv_dup hx hb dL_law__11 rfl ?_
  refine cj_v (wr := [(q_1, .inr (11, [.ref (u1.1 0), .ref (u1.1 1), .ref (u1.1 2), .int 0, .int 0, .ref (u1.1 5), .ref (u1.1 6), .ref (u1.1 7), .ref (u1.1 8), .ref (u1.1 9), .int 0, .ref (u1.1 11), .ref (u1.1 12), .ref (u1.1 13)])), ((u1.1 12), .inr (3, [.int 0, .int 0, .int 0, .ref (u1.1 80)])), ((u1.1 5), .inr (6, [.int 0, .int 0, .ref (u1.1 21), .ref (u1.1 22), .int 0, .int 0, .ref (u1.1 23), .int 0, .ref (u1.1 24), .int 0, .int 0, .ref (u1.1 25), .int 0, .ref (u1.1 26), .int 0, .int 0, .int 0, .int 0, .int 0])), ((u1.1 13), .inl (cy 0, 4, .inl (fun _ => 0)))]) (va_runI (As := []) (rest := [.ref q_2]) ⟨hx, hb, hml, hown, hts⟩ (c_M_sweep l hl D cy sa q_2 H.size) (cwI 0 hts gl_X12_init rfl rfl rfl ini_RX12 ml120 im_X12_init rfl (by decide +kernel) ⟨Nat.le_of_ble_eq_true rfl, Nat.le_of_ble_eq_true rfl⟩) ⟨pcW.blind, (pcW.mk hP hD hS hA hG hT [4] rfl (by decide))⟩ rfl rfl hlv.1 rfl (lv_room (Nat.le_of_ble_eq_true rfl)) dL_law__12 ⟨Nat.le_of_ble_eq_true rfl, Nat.le_of_ble_eq_true rfl⟩) hP hD hS hA [4] [0, 1, 2, 3] rfl rfl (by decide) (by decide) (fun u2 H locs hw2 hP hD hS => ?_)
  have hP : va_P D vwCl [(q_1, .inr (11, [.ref (u1.1 0), .ref (u1.1 1), .ref (u1.1 2), .int 0, .int 0, .ref (u1.1 5), .ref (u1.1 6), .ref (u1.1 7), .ref (u1.1 8), .ref (u1.1 9), .int 0, .ref (u1.1 11), .ref (u1.1 12), .ref (u1.1 13)])), ((u1.1 12), .inr (3, [.int 0, .int 0, .int 0, .ref (u1.1 80)])), ((u1.1 5), .inr (6, [.int 0, .int 0, .ref (u1.1 21), .ref (u1.1 22), .int 0, .int 0, .ref (u1.1 23), .int 0, .ref (u1.1 24), .int 0, .int 0, .ref (u1.1 25), .int 0, .ref (u1.1 26), .int 0, .int 0, .int 0, .int 0, .int 0])), ((u1.1 13), .inl (cy 0, 4, .inl (fun _ => 0))), (q_2, .inr (12, [.int 0, .ref (u2.1 1), .int 0, .int 0, .int 0, .int 0, .int 0, .int 0, .int (-1), .ref (u2.1 9), .ref (u2.1 10), .ref (u2.1 11), .ref (u2.1 12), .ref (u2.1 13), .ref (u2.1 14), .ref (u2.1 15), .int 0, .int 0, .int 0, .ref (u2.1 19), .ref (u2.1 20), .ref (u2.1 21), .int 0, .ref (u2.1 23), .ref (u2.1 24), .ref (u2.1 25), .ref (u2.1 26), .ref (u2.1 27), .ref (u2.1 28), .int 0, .int 0, .int 0, .int 0, .ref (u2.1 33), .int (-1), .ref (u2.1 35), .int 0, .int 0])), ((u2.1 1), .inl (cy 0, 4, .inl (fun _ => 0))), ((u2.1 10), .inl (cy 0, 68, .inl (fun _ => 0)))] H := hP
  have hD : va_D A [(q_1, .inr (11, [.ref (u1.1 0), .ref (u1.1 1), .ref (u1.1 2), .int 0, .int 0, .ref (u1.1 5), .ref (u1.1 6), .ref (u1.1 7), .ref (u1.1 8), .ref (u1.1 9), .int 0, .ref (u1.1 11), .ref (u1.1 12), .ref (u1.1 13)])), ((u1.1 12), .inr (3, [.int 0, .int 0, .int 0, .ref (u1.1 80)])), ((u1.1 5), .inr (6, [.int 0, .int 0, .ref (u1.1 21), .ref (u1.1 22), .int 0, .int 0, .ref (u1.1 23), .int 0, .ref (u1.1 24), .int 0, .int 0, .ref (u1.1 25), .int 0, .ref (u1.1 26), .int 0, .int 0, .int 0, .int 0, .int 0])), ((u1.1 13), .inl (cy 0, 4, .inl (fun _ => 0))), (q_2, .inr (12, [.int 0, .ref (u2.1 1), .int 0, .int 0, .int 0, .int 0, .int 0, .int 0, .int (-1), .ref (u2.1 9), .ref (u2.1 10), .ref (u2.1 11), .ref (u2.1 12), .ref (u2.1 13), .ref (u2.1 14), .ref (u2.1 15), .int 0, .int 0, .int 0, .ref (u2.1 19), .ref (u2.1 20), .ref (u2.1 21), .int 0, .ref (u2.1 23), .ref (u2.1 24), .ref (u2.1 25), .ref (u2.1 26), .ref (u2.1 27), .ref (u2.1 28), .int 0, .int 0, .int 0, .int 0, .ref (u2.1 33), .int (-1), .ref (u2.1 35), .int 0, .int 0])), ((u2.1 1), .inl (cy 0, 4, .inl (fun _ => 0))), ((u2.1 10), .inl (cy 0, 68, .inl (fun _ => 0)))] := hD
  refine lv_astore_n (lv' := [(2, .ref q_2), (1, .ref q_1), (0, .ref b)]) hx hb dL_law__15 rfl hlv (by decide) rfl (fun ls hlv => ?_)
  refine lv_iconst (v := 1) hx hb dL_law__16 (by decide) ?_
  refine nw_a (atype := .long) (cy := cy) (a0 := (1, .inr (.inl (fun _ => 0)))) (N' := 1) hx hb ac2 (ty := .long) rfl 2 rfl (fun C h => nomatch h) hG.1 hP hD hS hA (fun cA => rfl) (by decide) (by decide) (Nat.le_of_ble_eq_true rfl) (Nat.le_of_ble_eq_true rfl) (Nat.le_of_ble_eq_true rfl) dL_law__17 (fun q_3 H hP hD hS => ?_)
  have hP : va_P D vwCl [(q_1, .inr (11, [.ref (u1.1 0), .ref (u1.1 1), .ref (u1.1 2), .int 0, .int 0, .ref (u1.1 5), .ref (u1.1 6), .ref (u1.1 7), .ref (u1.1 8), .ref (u1.1 9), .int 0, .ref (u1.1 11), .ref (u1.1 12), .ref (u1.1 13)])), ((u1.1 12), .inr (3, [.int 0, .int 0, .int 0, .ref (u1.1 80)])), ((u1.1 5), .inr (6, [.int 0, .int 0, .ref (u1.1 21), .ref (u1.1 22), .int 0, .int 0, .ref (u1.1 23), .int 0, .ref (u1.1 24), .int 0, .int 0, .ref (u1.1 25), .int 0, .ref (u1.1 26), .int 0, .int 0, .int 0, .int 0, .int 0])), ((u1.1 13), .inl (cy 0, 4, .inl (fun _ => 0))), (q_2, .inr (12, [.int 0, .ref (u2.1 1), .int 0, .int 0, .int 0, .int 0, .int 0, .int 0, .int (-1), .ref (u2.1 9), .ref (u2.1 10), .ref (u2.1 11), .ref (u2.1 12), .ref (u2.1 13), .ref (u2.1 14), .ref (u2.1 15), .int 0, .int 0, .int 0, .ref (u2.1 19), .ref (u2.1 20), .ref (u2.1 21), .int 0, .ref (u2.1 23), .ref (u2.1 24), .ref (u2.1 25), .ref (u2.1 26), .ref (u2.1 27), .ref (u2.1 28), .int 0, .int 0, .int 0, .int 0, .ref (u2.1 33), .int (-1), .ref (u2.1 35), .int 0, .int 0])), ((u2.1 1), .inl (cy 0, 4, .inl (fun _ => 0))), ((u2.1 10), .inl (cy 0, 68, .inl (fun _ => 0))), (q_3, .inl (cy 2, 1, .inr (.inl (fun _ => 0))))] H := hP
  have hD : va_D A [(q_1, .inr (11, [.ref (u1.1 0), .ref (u1.1 1), .ref (u1.1 2), .int 0, .int 0, .ref (u1.1 5), .ref (u1.1 6), .ref (u1.1 7), .ref (u1.1 8), .ref (u1.1 9), .int 0, .ref (u1.1 11), .ref (u1.1 12), .ref (u1.1 13)])), ((u1.1 12), .inr (3, [.int 0, .int 0, .int 0, .ref (u1.1 80)])), ((u1.1 5), .inr (6, [.int 0, .int 0, .ref (u1.1 21), .ref (u1.1 22), .int 0, .int 0, .ref (u1.1 23), .int 0, .ref (u1.1 24), .int 0, .int 0, .ref (u1.1 25), .int 0, .ref (u1.1 26), .int 0, .int 0, .int 0, .int 0, .int 0])), ((u1.1 13), .inl (cy 0, 4, .inl (fun _ => 0))), (q_2, .inr (12, [.int 0, .ref (u2.1 1), .int 0, .int 0, .int 0, .int 0, .int 0, .int 0, .int (-1), .ref (u2.1 9), .ref (u2.1 10), .ref (u2.1 11), .ref (u2.1 12), .ref (u2.1 13), .ref (u2.1 14), .ref (u2.1 15), .int 0, .int 0, .int 0, .ref (u2.1 19), .ref (u2.1 20), .ref (u2.1 21), .int 0, .ref (u2.1 23), .ref (u2.1 24), .ref (u2.1 25), .ref (u2.1 26), .ref (u2.1 27), .ref (u2.1 28), .int 0, .int 0, .int 0, .int 0, .ref (u2.1 33), .int (-1), .ref (u2.1 35), .int 0, .int 0])), ((u2.1 1), .inl (cy 0, 4, .inl (fun _ => 0))), ((u2.1 10), .inl (cy 0, 68, .inl (fun _ => 0))), (q_3, .inl (cy 2, 1, .inr (.inl (fun _ => 0))))] := hD
  refine lv_astore_n (lv' := [(3, .ref q_3), (2, .ref q_2), (1, .ref q_1), (0, .ref b)]) hx hb dL_law__19 rfl hlv (by decide) rfl (fun ls hlv => ?_)
  refine lv_iconst (v := 0) hx hb dL_law__20 (by decide) ?_
  refine lv_istore (lv' := [(4, .int 0), (3, .ref q_3), (2, .ref q_2), (1, .ref q_1), (0, .ref b)]) hx hb dL_law__21 hlv (by decide) rfl (fun ls hlv => ?_)
  refine lv_iload hx hb dL_law__23 (lv_at hlv 0 rfl) ?_
  refine lv_aload_n hx hb dL_law__25 rfl (lv_at hlv 4 rfl) ?_
  refine va_slen hx hb hX hbl hbA hS dL_law__26 ?_
  refine lt_i (y := 10) (by decide) ?_
  refine lv_bipush (v := 10) hx hb dL_law__27 (by decide) ?_
  refine lv_isub hx hb dL_law__29 ?_
  refine lt_i (y := 0) (by decide) ?_
  refine lv_icmp_gt (tgt := 2761) hx hb dL_law__30 (by decide) (fun c => absurd c (by decide)) (fun _ => ?_)
  refine lv_aload_n hx hb dL_law__33 rfl (lv_at hlv 4 rfl) ?_
  refine lv_iload hx hb dL_law__34 (lv_at hlv 0 rfl) ?_
  refine va_sld hx hb hX hbl hbA hS (vpd (by decide)) dL_law__36 ?_
  refine lt_i (y := xs 0) rfl ?_
  refine lv_bipush (v := 63) hx hb dL_law__37 (by decide) ?_
  refine lv_iand hx hb dL_law__39 ?_
  refine lt_i (y := 32) h63 ?_
  refine lv_tableIn (tgt := 2555) hx hb dL_law__40 (by decide) (by decide) rfl (by decide) ?_
  refine lv_aload_n hx hb dL_law__2555 rfl (lv_at hlv 3 rfl) ?_
  refine lv_aload_n hx hb dL_law__2556 rfl (lv_at hlv 4 rfl) ?_
  refine lv_iload hx hb dL_law__2557 (lv_at hlv 0 rfl) ?_
  refine lv_iconst (v := 1) hx hb dL_law__2559 (by decide) ?_
  refine lv_iadd hx hb dL_law__2560 ?_
  refine lt_i (y := 1) (by decide) ?_
  refine va_sld hx hb hX hbl hbA hS (vpd (by decide)) dL_law__2561 ?_
  refine lt_i (y := xs 1) rfl ?_
  refine lv_aload_n hx hb dL_law__2562 rfl (lv_at hlv 1 rfl) ?_
  refine cj_i (wr := [(q_2, .inr (12, [.int 0, .ref (u2.1 1), .int 0, .int 0, .int 0, .int 0, .int 0, .int 0, .int (-1), .ref (u2.1 9), .ref (u2.1 10), .ref (u2.1 11), .ref (u2.1 12), .ref (u2.1 13), .ref (u2.1 14), .ref (u2.1 15), .int 0, .int 0, .int 0, .ref (u2.1 19), .ref (u2.1 20), .ref (u2.1 21), .int 0, .ref (u2.1 23), .ref (u2.1 24), .ref (u2.1 25), .ref (u2.1 26), .ref (u2.1 27), .ref (u2.1 28), .int 0, .int 0, .int 0, .int 0, .ref (u2.1 33), .int (-1), .ref (u2.1 35), .int 0, .int 0])), ((u2.1 1), .inl (cy 0, 4, .inl (fun _ => 0))), ((u2.1 10), .inl (cy 0, 68, .inl (fun _ => 0)))]) (vx_runSW (As := [.ref q_1, .int (xs 1), .ref q_3]) (rest := []) ⟨hx, hb, hml, hown, hts⟩ (w_sweep l hl D cy sa q_1 u1.1 (xs 1) q_3 H.size) (vx_cwSW 3 hts gl_w_sweep rfl rfl rfl (by decide +kernel) ⟨Nat.le_of_ble_eq_true rfl, Nat.le_of_ble_eq_true rfl⟩) ⟨pcW.blind, (pcW.mk hP hD hS hA hG hT [0, 1, 2, 3, 7] rfl (by decide))⟩ rfl rfl hlv.1 rfl (lv_room (Nat.le_of_ble_eq_true rfl)) dL_law__2563 ⟨Nat.le_of_ble_eq_true rfl, Nat.le_of_ble_eq_true rfl⟩) hP hD hS hA [0, 1, 2, 3, 7] [4, 5, 6] rfl rfl (by decide) (by decide) (fun r3 u3 H locs hw3 hP hD hS => ?_)
  rcases hw3 with ⟨hg3, rfl, he3_0⟩ | ⟨hg3, rfl⟩
  · rw [he3_0] at hP hD
    have hP : va_P D vwCl [(q_2, .inr (12, [.int 0, .ref (u2.1 1), .int 0, .int 0, .int 0, .int 0, .int 0, .int 0, .int (-1), .ref (u2.1 9), .ref (u2.1 10), .ref (u2.1 11), .ref (u2.1 12), .ref (u2.1 13), .ref (u2.1 14), .ref (u2.1 15), .int 0, .int 0, .int 0, .ref (u2.1 19), .ref (u2.1 20), .ref (u2.1 21), .int 0, .ref (u2.1 23), .ref (u2.1 24), .ref (u2.1 25), .ref (u2.1 26), .ref (u2.1 27), .ref (u2.1 28), .int 0, .int 0, .int 0, .int 0, .ref (u2.1 33), .int (-1), .ref (u2.1 35), .int 0, .int 0])), ((u2.1 1), .inl (cy 0, 4, .inl (fun _ => 0))), ((u2.1 10), .inl (cy 0, 68, .inl (fun _ => 0))), (q_3, .inl (cy 2, 1, .inr (.inl (fun _ => (0 : Int32).toInt64))))] H := hP
    have hD : va_D A [(q_2, .inr (12, [.int 0, .ref (u2.1 1), .int 0, .int 0, .int 0, .int 0, .int 0, .int 0, .int (-1), .ref (u2.1 9), .ref (u2.1 10), .ref (u2.1 11), .ref (u2.1 12), .ref (u2.1 13), .ref (u2.1 14), .ref (u2.1 15), .int 0, .int 0, .int 0, .ref (u2.1 19), .ref (u2.1 20), .ref (u2.1 21), .int 0, .ref (u2.1 23), .ref (u2.1 24), .ref (u2.1 25), .ref (u2.1 26), .ref (u2.1 27), .ref (u2.1 28), .int 0, .int 0, .int 0, .int 0, .ref (u2.1 33), .int (-1), .ref (u2.1 35), .int 0, .int 0])), ((u2.1 1), .inl (cy 0, 4, .inl (fun _ => 0))), ((u2.1 10), .inl (cy 0, 68, .inl (fun _ => 0))), (q_3, .inl (cy 2, 1, .inr (.inl (fun _ => (0 : Int32).toInt64))))] := hD
    refine lv_istore (lv' := [(5, .int 0), (4, .int 0), (3, .ref q_3), (2, .ref q_2), (1, .ref q_1), (0, .ref b)]) hx hb dL_law__2566 hlv (by decide) rfl (fun ls hlv => ?_)
    refine lv_aload_n hx hb dL_law__2568 rfl (lv_at hlv 3 rfl) ?_
    refine lv_aload_n hx hb dL_law__2569 rfl (lv_at hlv 5 rfl) ?_
    refine lv_iload hx hb dL_law__2570 (lv_at hlv 1 rfl) ?_
    refine lv_iconst (v := 1) hx hb dL_law__2572 (by decide) ?_
    refine lv_iadd hx hb dL_law__2573 ?_
    refine lt_i (y := 1) (by decide) ?_
    refine va_sld hx hb hX hbl hbA hS (vpd (by decide)) dL_law__2574 ?_
    refine lt_i (y := xs 1) rfl ?_
    refine cj_i (wr := [(q_3, .inl (cy 2, 1, .inr (.inl (fun _ => (0 : Int32).toInt64))))]) (va_runV (As := [.int (xs 1)]) (rest := []) ⟨hx, hb, hml, hown, hts⟩ (m_sweep l hl D cy sa q_2 u2.1 (xs 1) H.size) (cwV 1 hts gl_m_sweep rfl rfl rfl (by decide +kernel) ⟨Nat.le_of_ble_eq_true rfl, Nat.le_of_ble_eq_true rfl⟩) ⟨pcW.blind, (va_recv hG.1 hP (ci := 12) (q0 := 0) rfl rfl), (pcW.mk hP hD hS hA hG hT [0, 1, 2] rfl (by decide))⟩ rfl rfl hlv.1 rfl (lv_room (Nat.le_of_ble_eq_true rfl)) dL_law__2575 ⟨Nat.le_of_ble_eq_true rfl, Nat.le_of_ble_eq_true rfl⟩) hP hD hS hA [0, 1, 2] [3] rfl rfl (by decide) (by decide) (fun r4 u4 H locs hw4 hP hD hS => ?_)
    rcases hw4 with ⟨hg4, rfl, he4_0⟩ | ⟨hg4, rfl, he4_0⟩
    · exact absurd hg4 (fun q => absurd hg3 q)
    · rw [he4_0] at hP hD
      have hP : va_P D vwCl [(q_3, .inl (cy 2, 1, .inr (.inl (fun _ => (0 : Int32).toInt64)))), (q_2, .inr (12, [.int 0, .ref (u2.1 1), .int 0, .int 0, .int 0, .int 0, .int 0, .int 0, .int (-1), .ref (u2.1 9), .ref (u2.1 10), .ref (u2.1 11), .ref (u2.1 12), .ref (u2.1 13), .ref (u2.1 14), .ref (u2.1 15), .int 0, .int 0, .int 0, .ref (u2.1 19), .ref (u2.1 20), .ref (u2.1 21), .int 0, .ref (u2.1 23), .ref (u2.1 24), .ref (u2.1 25), .ref (u2.1 26), .ref (u2.1 27), .ref (u2.1 28), .int 0, .int 0, .int 0, .int 0, .ref (u2.1 33), .int (-1), .ref (u2.1 35), .int 0, .int 0]))] H := hP
      have hD : va_D A [(q_3, .inl (cy 2, 1, .inr (.inl (fun _ => (0 : Int32).toInt64)))), (q_2, .inr (12, [.int 0, .ref (u2.1 1), .int 0, .int 0, .int 0, .int 0, .int 0, .int 0, .int (-1), .ref (u2.1 9), .ref (u2.1 10), .ref (u2.1 11), .ref (u2.1 12), .ref (u2.1 13), .ref (u2.1 14), .ref (u2.1 15), .int 0, .int 0, .int 0, .ref (u2.1 19), .ref (u2.1 20), .ref (u2.1 21), .int 0, .ref (u2.1 23), .ref (u2.1 24), .ref (u2.1 25), .ref (u2.1 26), .ref (u2.1 27), .ref (u2.1 28), .int 0, .int 0, .int 0, .int 0, .ref (u2.1 33), .int (-1), .ref (u2.1 35), .int 0, .int 0]))] := hD
      refine lv_istore (lv' := [(6, .int 0), (5, .int 0), (4, .int 0), (3, .ref q_3), (2, .ref q_2), (1, .ref q_1), (0, .ref b)]) hx hb dL_law__2578 hlv (by decide) rfl (fun ls hlv => ?_)
      refine lv_aload_n hx hb dL_law__2580 rfl (lv_at hlv 4 rfl) ?_
      refine cj_i (wr := [(q_3, .inl (cy 2, 1, .inr (.inl (fun _ => (0 : Int32).toInt64))))]) (va_runV (As := []) (rest := []) ⟨hx, hb, hml, hown, hts⟩ (c_thrown l hl D cy sa q_2 u2.1 0 0 0 0 0 0 0 (-1) 0 0 0 0 0 0 0 0 (-1) 0 0 H.size) (cwV 0 hts gl_c_thrown rfl rfl rfl (by decide +kernel) ⟨Nat.le_of_ble_eq_true rfl, Nat.le_of_ble_eq_true rfl⟩) ⟨pcW.blind, (va_recv hG.1 hP (ci := 12) (q0 := 1) rfl rfl), (pcW.mk hP hD hS hA hG hT [1] rfl (by decide))⟩ rfl rfl hlv.1 rfl (lv_room (Nat.le_of_ble_eq_true rfl)) dL_law__2581 ⟨Nat.le_of_ble_eq_true rfl, Nat.le_of_ble_eq_true rfl⟩) hP hD hS hA [1] [0] rfl rfl (by decide) (by decide) (fun r5 u5 H locs hw5 hP hD hS => ?_)
      obtain rfl := hw5
      have hP : va_P D vwCl [(q_3, .inl (cy 2, 1, .inr (.inl (fun _ => (0 : Int32).toInt64))))] H := hP
      have hD : va_D A [(q_3, .inl (cy 2, 1, .inr (.inl (fun _ => (0 : Int32).toInt64))))] := hD
      refine lv_iload hx hb dL_law__2584 (lv_at hlv 1 rfl) ?_
      refine lv_icmp_eq (tgt := 2591) hx hb dL_law__2586 (by decide) (fun _ => ?_) (fun c => absurd (by decide) c)
      refine lv_iload hx hb dL_law__2591 (lv_at hlv 1 rfl) ?_
      refine lv_if_ne (tgt := 2608) hx hb dL_law__2593 (by decide) (fun c => absurd (by decide) c) (fun _ => ?_)
      refine lv_aload_n hx hb dL_law__2596 rfl (lv_at hlv 3 rfl) ?_
      refine lv_iconst (v := 0) hx hb dL_law__2597 (by decide) ?_
      refine va_lald hx hb hG.1 hP 0 2 rfl rfl (vpd (by decide)) dL_law__2598 ?_
      refine ltv (y := .long ((0 : Int32).toInt64)) rfl ?_
      refine lv_iload hx hb dL_law__2599 (lv_at hlv 0 rfl) ?_
      refine lv_i2l (v := (0 : Int32).toInt64) hx hb dL_law__2601 rfl ?_
      refine W.lcmp hx hb dL_law__2602 ?_
      refine lt_i (y := 0) (lcmp_self _) ?_
      refine lv_if_eq (tgt := 2608) hx hb dL_law__2603 (by decide) (fun _ => ?_) (fun c => absurd (by decide) c)
      refine lv_goto (tgt := 2755) hx hb dL_law__2608 (by decide) ?_
      refine lv_iinc (v := 10) (lv' := [(4, .int 10), (6, .int 0), (5, .int 0), (3, .ref q_3), (2, .ref q_2), (1, .ref q_1), (0, .ref b)]) hx hb dL_law__2755 hlv (k := 2) rfl (by decide) (by decide) rfl (fun ls hlv => ?_)
      refine lv_goto (tgt := 23) hx hb dL_law__2758 (by decide) ?_
      refine lv_iload hx hb dL_law__23 (lv_at hlv 0 rfl) ?_
      refine lv_aload_n hx hb dL_law__25 rfl (lv_at hlv 6 rfl) ?_
      refine va_slen hx hb hX hbl hbA hS dL_law__26 ?_
      refine lt_i (y := 10) (by decide) ?_
      refine lv_bipush (v := 10) hx hb dL_law__27 (by decide) ?_
      refine lv_isub hx hb dL_law__29 ?_
      refine lt_i (y := 0) (by decide) ?_
      refine lv_icmp_gt (tgt := 2761) hx hb dL_law__30 (by decide) (fun _ => ?_) (fun c => absurd (by decide) c)
      refine lv_iconst (v := 1) hx hb dL_law__2761 (by decide) ?_
      refine va_forget (fun q hq => by have h9 := hS.2.2 q hq; rw [hAe] at h9; exact h9) ?_
      refine W.widen (k := 600002) (n := 7302232) (Nat.le_of_ble_eq_true rfl) (Nat.le_of_ble_eq_true rfl) ?_
      exact lw_ret hx hb hr hlocks dL_law__2762
  · have hP : va_P D vwCl [(q_2, .inr (12, [.int 0, .ref (u2.1 1), .int 0, .int 0, .int 0, .int 0, .int 0, .int 0, .int (-1), .ref (u2.1 9), .ref (u2.1 10), .ref (u2.1 11), .ref (u2.1 12), .ref (u2.1 13), .ref (u2.1 14), .ref (u2.1 15), .int 0, .int 0, .int 0, .ref (u2.1 19), .ref (u2.1 20), .ref (u2.1 21), .int 0, .ref (u2.1 23), .ref (u2.1 24), .ref (u2.1 25), .ref (u2.1 26), .ref (u2.1 27), .ref (u2.1 28), .int 0, .int 0, .int 0, .int 0, .ref (u2.1 33), .int (-1), .ref (u2.1 35), .int 0, .int 0])), ((u2.1 1), .inl (cy 0, 4, .inl (fun _ => 0))), ((u2.1 10), .inl (cy 0, 68, .inl (fun _ => 0))), (q_3, .inl (cy 2, 1, .inr (.inl (fun _ => (u3.2.1 0 : Int32).toInt64))))] H := hP
    have hD : va_D A [(q_2, .inr (12, [.int 0, .ref (u2.1 1), .int 0, .int 0, .int 0, .int 0, .int 0, .int 0, .int (-1), .ref (u2.1 9), .ref (u2.1 10), .ref (u2.1 11), .ref (u2.1 12), .ref (u2.1 13), .ref (u2.1 14), .ref (u2.1 15), .int 0, .int 0, .int 0, .ref (u2.1 19), .ref (u2.1 20), .ref (u2.1 21), .int 0, .ref (u2.1 23), .ref (u2.1 24), .ref (u2.1 25), .ref (u2.1 26), .ref (u2.1 27), .ref (u2.1 28), .int 0, .int 0, .int 0, .int 0, .ref (u2.1 33), .int (-1), .ref (u2.1 35), .int 0, .int 0])), ((u2.1 1), .inl (cy 0, 4, .inl (fun _ => 0))), ((u2.1 10), .inl (cy 0, 68, .inl (fun _ => 0))), (q_3, .inl (cy 2, 1, .inr (.inl (fun _ => (u3.2.1 0 : Int32).toInt64))))] := hD
    refine lv_istore (lv' := [(5, .int 1), (4, .int 0), (3, .ref q_3), (2, .ref q_2), (1, .ref q_1), (0, .ref b)]) hx hb dL_law__2566 hlv (by decide) rfl (fun ls hlv => ?_)
    refine lv_aload_n hx hb dL_law__2568 rfl (lv_at hlv 3 rfl) ?_
    refine lv_aload_n hx hb dL_law__2569 rfl (lv_at hlv 5 rfl) ?_
    refine lv_iload hx hb dL_law__2570 (lv_at hlv 1 rfl) ?_
    refine lv_iconst (v := 1) hx hb dL_law__2572 (by decide) ?_
    refine lv_iadd hx hb dL_law__2573 ?_
    refine lt_i (y := 1) (by decide) ?_
    refine va_sld hx hb hX hbl hbA hS (vpd (by decide)) dL_law__2574 ?_
    refine lt_i (y := xs 1) rfl ?_
    refine cj_i (wr := [(q_3, .inl (cy 2, 1, .inr (.inl (fun _ => (u3.2.1 0 : Int32).toInt64))))]) (va_runV (As := [.int (xs 1)]) (rest := []) ⟨hx, hb, hml, hown, hts⟩ (m_sweep l hl D cy sa q_2 u2.1 (xs 1) H.size) (cwV 1 hts gl_m_sweep rfl rfl rfl (by decide +kernel) ⟨Nat.le_of_ble_eq_true rfl, Nat.le_of_ble_eq_true rfl⟩) ⟨pcW.blind, (va_recv hG.1 hP (ci := 12) (q0 := 0) rfl rfl), (pcW.mk hP hD hS hA hG hT [0, 1, 2] rfl (by decide))⟩ rfl rfl hlv.1 rfl (lv_room (Nat.le_of_ble_eq_true rfl)) dL_law__2575 ⟨Nat.le_of_ble_eq_true rfl, Nat.le_of_ble_eq_true rfl⟩) hP hD hS hA [0, 1, 2] [3] rfl rfl (by decide) (by decide) (fun r6 u6 H locs hw6 hP hD hS => ?_)
    rcases hw6 with ⟨hg6, rfl, he6_0⟩ | ⟨hg6, rfl, he6_0⟩
    · rw [he6_0] at hP hD
      have hP : va_P D vwCl [(q_3, .inl (cy 2, 1, .inr (.inl (fun _ => (u3.2.1 0 : Int32).toInt64)))), (q_2, .inr (12, [.int 1, .ref (u2.1 1), .int 0, .int 0, .int 0, .int 0, .int 0, .int 0, .int (-1), .ref (u2.1 9), .ref (u2.1 10), .ref (u2.1 11), .ref (u2.1 12), .ref (u2.1 13), .ref (u2.1 14), .ref (u2.1 15), .int 0, .int 0, .int 0, .ref (u2.1 19), .ref (u2.1 20), .ref (u2.1 21), .int 0, .ref (u2.1 23), .ref (u2.1 24), .ref (u2.1 25), .ref (u2.1 26), .ref (u2.1 27), .ref (u2.1 28), .int 0, .int 0, .int 0, .int 0, .ref (u2.1 33), .int (-1), .ref (u2.1 35), .int 0, .int 0]))] H := hP
      have hD : va_D A [(q_3, .inl (cy 2, 1, .inr (.inl (fun _ => (u3.2.1 0 : Int32).toInt64)))), (q_2, .inr (12, [.int 1, .ref (u2.1 1), .int 0, .int 0, .int 0, .int 0, .int 0, .int 0, .int (-1), .ref (u2.1 9), .ref (u2.1 10), .ref (u2.1 11), .ref (u2.1 12), .ref (u2.1 13), .ref (u2.1 14), .ref (u2.1 15), .int 0, .int 0, .int 0, .ref (u2.1 19), .ref (u2.1 20), .ref (u2.1 21), .int 0, .ref (u2.1 23), .ref (u2.1 24), .ref (u2.1 25), .ref (u2.1 26), .ref (u2.1 27), .ref (u2.1 28), .int 0, .int 0, .int 0, .int 0, .ref (u2.1 33), .int (-1), .ref (u2.1 35), .int 0, .int 0]))] := hD
      refine lv_istore (lv' := [(6, .int 0), (5, .int 1), (4, .int 0), (3, .ref q_3), (2, .ref q_2), (1, .ref q_1), (0, .ref b)]) hx hb dL_law__2578 hlv (by decide) rfl (fun ls hlv => ?_)
      refine lv_aload_n hx hb dL_law__2580 rfl (lv_at hlv 4 rfl) ?_
      refine cj_i (wr := [(q_3, .inl (cy 2, 1, .inr (.inl (fun _ => (u3.2.1 0 : Int32).toInt64))))]) (va_runV (As := []) (rest := []) ⟨hx, hb, hml, hown, hts⟩ (c_thrown l hl D cy sa q_2 u2.1 1 0 0 0 0 0 0 (-1) 0 0 0 0 0 0 0 0 (-1) 0 0 H.size) (cwV 0 hts gl_c_thrown rfl rfl rfl (by decide +kernel) ⟨Nat.le_of_ble_eq_true rfl, Nat.le_of_ble_eq_true rfl⟩) ⟨pcW.blind, (va_recv hG.1 hP (ci := 12) (q0 := 1) rfl rfl), (pcW.mk hP hD hS hA hG hT [1] rfl (by decide))⟩ rfl rfl hlv.1 rfl (lv_room (Nat.le_of_ble_eq_true rfl)) dL_law__2581 ⟨Nat.le_of_ble_eq_true rfl, Nat.le_of_ble_eq_true rfl⟩) hP hD hS hA [1] [0] rfl rfl (by decide) (by decide) (fun r7 u7 H locs hw7 hP hD hS => ?_)
      obtain rfl := hw7
      have hP : va_P D vwCl [(q_3, .inl (cy 2, 1, .inr (.inl (fun _ => (u3.2.1 0 : Int32).toInt64))))] H := hP
      have hD : va_D A [(q_3, .inl (cy 2, 1, .inr (.inl (fun _ => (u3.2.1 0 : Int32).toInt64))))] := hD
      refine lv_iload hx hb dL_law__2584 (lv_at hlv 1 rfl) ?_
      refine lv_icmp_eq (tgt := 2591) hx hb dL_law__2586 (by decide) (fun _ => ?_) (fun c => absurd (by decide) c)
      refine lv_iload hx hb dL_law__2591 (lv_at hlv 1 rfl) ?_
      refine lv_if_ne (tgt := 2608) hx hb dL_law__2593 (by decide) (fun _ => ?_) (fun c => absurd c (by decide))
      refine lv_goto (tgt := 2755) hx hb dL_law__2608 (by decide) ?_
      refine lv_iinc (v := 10) (lv' := [(4, .int 10), (6, .int 0), (5, .int 1), (3, .ref q_3), (2, .ref q_2), (1, .ref q_1), (0, .ref b)]) hx hb dL_law__2755 hlv (k := 2) rfl (by decide) (by decide) rfl (fun ls hlv => ?_)
      refine lv_goto (tgt := 23) hx hb dL_law__2758 (by decide) ?_
      refine lv_iload hx hb dL_law__23 (lv_at hlv 0 rfl) ?_
      refine lv_aload_n hx hb dL_law__25 rfl (lv_at hlv 6 rfl) ?_
      refine va_slen hx hb hX hbl hbA hS dL_law__26 ?_
      refine lt_i (y := 10) (by decide) ?_
      refine lv_bipush (v := 10) hx hb dL_law__27 (by decide) ?_
      refine lv_isub hx hb dL_law__29 ?_
      refine lt_i (y := 0) (by decide) ?_
      refine lv_icmp_gt (tgt := 2761) hx hb dL_law__30 (by decide) (fun _ => ?_) (fun c => absurd (by decide) c)
      refine lv_iconst (v := 1) hx hb dL_law__2761 (by decide) ?_
      refine va_forget (fun q hq => by have h9 := hS.2.2 q hq; rw [hAe] at h9; exact h9) ?_
      refine W.widen (k := 600002) (n := 7302232) (Nat.le_of_ble_eq_true rfl) (Nat.le_of_ble_eq_true rfl) ?_
      exact lw_ret hx hb hr hlocks dL_law__2762
    · exact absurd hg6 hg3
set_option maxHeartbeats 4000000 in
set_option maxRecDepth 100000 in
theorem law_ice {p : Program} {e : Env} {s : State} {m : MethodId} {below : List Frame} {meth : Method} {c : Code} (l : Launch) (hl : l.stackTraces = false) {b : Nat} {xs : Nat → Int32} {D : va_G} {cy : Nat → ClassId} {sa : Nat → Nat} {A : Nat → Prop} (hAe : A = fun q => s.heap.size ≤ q) (C0 : lw_At p s m meth c b 10 xs) (hG : GC D cy sa s) (hT : TH A s s.heap) (h63 : xs 0 &&& 63 = 33) : W p l e room_1 s m #[Value.ref b] below meth c s.heap [] 0 0 (lw_Z below #[Value.ref b] s) (entryFrame m ([Value.ref b] : List Value).toArray 7) := by
  obtain ⟨hx, hb, hr, hml, hown0, hts0, hX, hbl, hlocks, hgv⟩ := id C0
  have hown : s.vm.findClass RL = some m.cls := hown0
  have hts := hts0
  have hA : ∀ q : Nat, s.heap.size ≤ q → A q := fun q h => by rw [hAe]; exact h
  have hbA : ¬ A b := by rw [hAe]; exact Nat.not_le.mpr hbl
  have hS : va_S A s.heap s.heap [] := va_S.rf
  have hP : va_P D vwCl [] s.heap := fun k q h => by simp at h
  have hD : va_D A [] := ⟨fun i j p q h => by simp at h, fun k q h => by simp at h⟩
  have hl0 := lv_entry ([.ref b]) (n := 7) (Nat.le_of_ble_eq_true rfl)
  rw [lg_entry_eq]
  generalize (lg_sl ([.ref b]) ++ List.replicate (7 - (lg_sl ([.ref b])).length) Slot.unset).toArray = ls at hl0 ⊢
  have hlv : lv_has ls 7 [(0, .ref b)] := hl0
  have cl8 := hts (.classLink RL 8 RX11) lwd_0
  have in11 := hts (.instantiable RX11 14) lwd_1
  have ini11 := hts (.initialized RX11) lwd_2
  have ini_RX11 := hts (.initialized RX11) lwd_2
  have ml117 := hts (.methodLink RL 117 yX11_init) lwd_3
  have im_X11_init := hts (.instanceMethod yX11_init) lwd_4
  have cl118 := hts (.classLink RL 118 RX12) lwd_5
  have in12 := hts (.instantiable RX12 38) lwd_6
  have ini12 := hts (.initialized RX12) lwd_7
  have ini_RX12 := hts (.initialized RX12) lwd_7
  have ml120 := hts (.methodLink RL 120 yX12_init) lwd_8
  have im_X12_init := hts (.instanceMethod yX12_init) lwd_9
  have ac2 := hts (.arrayClass .long) lwd_10
  refine va_new (ci := 11) (fs := [.null, .null, .null, .int 0, .int 0, .null, .null, .null, .null, .null, .int 0, .null, .null, .null]) (C := RX11) (T := TX11) (N := 14) hx hb hts inX11 tyX11 tyX11_ok hown cl8 in11 ini11 hG.1 hP hD hS hA rfl (by decide) (Nat.le_of_ble_eq_true rfl) (Nat.le_of_ble_eq_true rfl) dL_law__0 (fun q_1 H hP hD hS => ?_)
  have hP : va_P D vwCl [(q_1, .inr (11, [.null, .null, .null, .int 0, .int 0, .null, .null, .null, .null, .null, .int 0, .null, .null, .null]))] H := hP
  have hD : va_D A [(q_1, .inr (11, [.null, .null, .null, .int 0, .int 0, .null, .null, .null, .null, .null, .int 0, .null, .null, .null]))] := hD
  refine lv_dup hx hb dL_law__3 rfl ?_
  refine cj_v (wr := []) (va_runI (As := []) (rest := [.ref q_1]) ⟨hx, hb, hml, hown, hts⟩ (c_K_ice l hl D cy sa q_1 H.size) (cwI 0 hts gl_X11_init rfl rfl rfl ini_RX11 ml117 im_X11_init rfl (by decide +kernel) ⟨Nat.le_of_ble_eq_true rfl, Nat.le_of_ble_eq_true rfl⟩) ⟨pcW.blind, (pcW.mk hP hD hS hA hG hT [0] rfl (by decide))⟩ rfl rfl hlv.1 rfl (lv_room (Nat.le_of_ble_eq_true rfl)) dL_law__4 ⟨Nat.le_of_ble_eq_true rfl, Nat.le_of_ble_eq_true rfl⟩) hP hD hS hA [0] [] rfl rfl (by decide) (by decide) (fun u1 H locs hw1 hP hD hS => ?_)
  have hP : va_P D vwCl [(q_1, .inr (11, [.ref (u1.1 0), .ref (u1.1 1), .ref (u1.1 2), .int 0, .int 0, .ref (u1.1 5), .ref (u1.1 6), .ref (u1.1 7), .ref (u1.1 8), .ref (u1.1 9), .int 0, .ref (u1.1 11), .ref (u1.1 12), .ref (u1.1 13)])), ((u1.1 5), .inr (6, [.int 0, .int 0, .ref (u1.1 21), .ref (u1.1 22), .int 0, .int 0, .ref (u1.1 23), .int 0, .ref (u1.1 24), .int 0, .int 0, .ref (u1.1 25), .int 0, .ref (u1.1 26), .int 0, .int 0, .int 0, .int 0, .int 0])), ((u1.1 13), .inl (cy 0, 4, .inl (fun _ => 0)))] H := hP
  have hD : va_D A [(q_1, .inr (11, [.ref (u1.1 0), .ref (u1.1 1), .ref (u1.1 2), .int 0, .int 0, .ref (u1.1 5), .ref (u1.1 6), .ref (u1.1 7), .ref (u1.1 8), .ref (u1.1 9), .int 0, .ref (u1.1 11), .ref (u1.1 12), .ref (u1.1 13)])), ((u1.1 5), .inr (6, [.int 0, .int 0, .ref (u1.1 21), .ref (u1.1 22), .int 0, .int 0, .ref (u1.1 23), .int 0, .ref (u1.1 24), .int 0, .int 0, .ref (u1.1 25), .int 0, .ref (u1.1 26), .int 0, .int 0, .int 0, .int 0, .int 0])), ((u1.1 13), .inl (cy 0, 4, .inl (fun _ => 0)))] := hD
  refine lv_astore_n (lv' := [(1, .ref q_1), (0, .ref b)]) hx hb dL_law__7 rfl hlv (by decide) rfl (fun ls hlv => ?_)
  refine va_new (ci := 12) (fs := [.int 0, .null, .int 0, .int 0, .int 0, .int 0, .int 0, .int 0, .int 0, .null, .null, .null, .null, .null, .null, .null, .int 0, .int 0, .int 0, .null, .null, .null, .int 0, .null, .null, .null, .null, .null, .null, .int 0, .int 0, .int 0, .int 0, .null, .int 0, .null, .int 0, .int 0]) (C := RX12) (T := TX12) (N := 38) hx hb hts inX12 tyX12 tyX12_ok hown cl118 in12 ini12 hG.1 hP hD hS hA rfl (by decide) (Nat.le_of_ble_eq_true rfl) (Nat.le_of_ble_eq_true rfl) dL_law__8 (fun q_2 H hP hD hS => ?_)
  have hP : va_P D vwCl [(q_1, .inr (11, [.ref (u1.1 0), .ref (u1.1 1), .ref (u1.1 2), .int 0, .int 0, .ref (u1.1 5), .ref (u1.1 6), .ref (u1.1 7), .ref (u1.1 8), .ref (u1.1 9), .int 0, .ref (u1.1 11), .ref (u1.1 12), .ref (u1.1 13)])), ((u1.1 5), .inr (6, [.int 0, .int 0, .ref (u1.1 21), .ref (u1.1 22), .int 0, .int 0, .ref (u1.1 23), .int 0, .ref (u1.1 24), .int 0, .int 0, .ref (u1.1 25), .int 0, .ref (u1.1 26), .int 0, .int 0, .int 0, .int 0, .int 0])), ((u1.1 13), .inl (cy 0, 4, .inl (fun _ => 0))), (q_2, .inr (12, [.int 0, .null, .int 0, .int 0, .int 0, .int 0, .int 0, .int 0, .int 0, .null, .null, .null, .null, .null, .null, .null, .int 0, .int 0, .int 0, .null, .null, .null, .int 0, .null, .null, .null, .null, .null, .null, .int 0, .int 0, .int 0, .int 0, .null, .int 0, .null, .int 0, .int 0]))] H := hP
  have hD : va_D A [(q_1, .inr (11, [.ref (u1.1 0), .ref (u1.1 1), .ref (u1.1 2), .int 0, .int 0, .ref (u1.1 5), .ref (u1.1 6), .ref (u1.1 7), .ref (u1.1 8), .ref (u1.1 9), .int 0, .ref (u1.1 11), .ref (u1.1 12), .ref (u1.1 13)])), ((u1.1 5), .inr (6, [.int 0, .int 0, .ref (u1.1 21), .ref (u1.1 22), .int 0, .int 0, .ref (u1.1 23), .int 0, .ref (u1.1 24), .int 0, .int 0, .ref (u1.1 25), .int 0, .ref (u1.1 26), .int 0, .int 0, .int 0, .int 0, .int 0])), ((u1.1 13), .inl (cy 0, 4, .inl (fun _ => 0))), (q_2, .inr (12, [.int 0, .null, .int 0, .int 0, .int 0, .int 0, .int 0, .int 0, .int 0, .null, .null, .null, .null, .null, .null, .null, .int 0, .int 0, .int 0, .null, .null, .null, .int 0, .null, .null, .null, .null, .null, .null, .int 0, .int 0, .int 0, .int 0, .null, .int 0, .null, .int 0, .int 0]))] := hD
  refine lv_dup hx hb dL_law__11 rfl ?_
  refine cj_v (wr := [(q_1, .inr (11, [.ref (u1.1 0), .ref (u1.1 1), .ref (u1.1 2), .int 0, .int 0, .ref (u1.1 5), .ref (u1.1 6), .ref (u1.1 7), .ref (u1.1 8), .ref (u1.1 9), .int 0, .ref (u1.1 11), .ref (u1.1 12), .ref (u1.1 13)])), ((u1.1 5), .inr (6, [.int 0, .int 0, .ref (u1.1 21), .ref (u1.1 22), .int 0, .int 0, .ref (u1.1 23), .int 0, .ref (u1.1 24), .int 0, .int 0, .ref (u1.1 25), .int 0, .ref (u1.1 26), .int 0, .int 0, .int 0, .int 0, .int 0])), ((u1.1 13), .inl (cy 0, 4, .inl (fun _ => 0)))]) (va_runI (As := []) (rest := [.ref q_2]) ⟨hx, hb, hml, hown, hts⟩ (c_M_ice l hl D cy sa q_2 H.size) (cwI 0 hts gl_X12_init rfl rfl rfl ini_RX12 ml120 im_X12_init rfl (by decide +kernel) ⟨Nat.le_of_ble_eq_true rfl, Nat.le_of_ble_eq_true rfl⟩) ⟨pcW.blind, (pcW.mk hP hD hS hA hG hT [3] rfl (by decide))⟩ rfl rfl hlv.1 rfl (lv_room (Nat.le_of_ble_eq_true rfl)) dL_law__12 ⟨Nat.le_of_ble_eq_true rfl, Nat.le_of_ble_eq_true rfl⟩) hP hD hS hA [3] [0, 1, 2] rfl rfl (by decide) (by decide) (fun u2 H locs hw2 hP hD hS => ?_)
  have hP : va_P D vwCl [(q_1, .inr (11, [.ref (u1.1 0), .ref (u1.1 1), .ref (u1.1 2), .int 0, .int 0, .ref (u1.1 5), .ref (u1.1 6), .ref (u1.1 7), .ref (u1.1 8), .ref (u1.1 9), .int 0, .ref (u1.1 11), .ref (u1.1 12), .ref (u1.1 13)])), ((u1.1 5), .inr (6, [.int 0, .int 0, .ref (u1.1 21), .ref (u1.1 22), .int 0, .int 0, .ref (u1.1 23), .int 0, .ref (u1.1 24), .int 0, .int 0, .ref (u1.1 25), .int 0, .ref (u1.1 26), .int 0, .int 0, .int 0, .int 0, .int 0])), ((u1.1 13), .inl (cy 0, 4, .inl (fun _ => 0))), (q_2, .inr (12, [.int 0, .ref (u2.1 1), .int 0, .int 0, .int 0, .int 0, .int 0, .int 0, .int (-1), .ref (u2.1 9), .ref (u2.1 10), .ref (u2.1 11), .ref (u2.1 12), .ref (u2.1 13), .ref (u2.1 14), .ref (u2.1 15), .int 0, .int 0, .int 0, .ref (u2.1 19), .ref (u2.1 20), .ref (u2.1 21), .int 0, .ref (u2.1 23), .ref (u2.1 24), .ref (u2.1 25), .ref (u2.1 26), .ref (u2.1 27), .ref (u2.1 28), .int 0, .int 0, .int 0, .int 0, .ref (u2.1 33), .int (-1), .ref (u2.1 35), .int 0, .int 0])), ((u2.1 1), .inl (cy 0, 4, .inl (fun _ => 0))), ((u2.1 10), .inl (cy 0, 68, .inl (fun _ => 0)))] H := hP
  have hD : va_D A [(q_1, .inr (11, [.ref (u1.1 0), .ref (u1.1 1), .ref (u1.1 2), .int 0, .int 0, .ref (u1.1 5), .ref (u1.1 6), .ref (u1.1 7), .ref (u1.1 8), .ref (u1.1 9), .int 0, .ref (u1.1 11), .ref (u1.1 12), .ref (u1.1 13)])), ((u1.1 5), .inr (6, [.int 0, .int 0, .ref (u1.1 21), .ref (u1.1 22), .int 0, .int 0, .ref (u1.1 23), .int 0, .ref (u1.1 24), .int 0, .int 0, .ref (u1.1 25), .int 0, .ref (u1.1 26), .int 0, .int 0, .int 0, .int 0, .int 0])), ((u1.1 13), .inl (cy 0, 4, .inl (fun _ => 0))), (q_2, .inr (12, [.int 0, .ref (u2.1 1), .int 0, .int 0, .int 0, .int 0, .int 0, .int 0, .int (-1), .ref (u2.1 9), .ref (u2.1 10), .ref (u2.1 11), .ref (u2.1 12), .ref (u2.1 13), .ref (u2.1 14), .ref (u2.1 15), .int 0, .int 0, .int 0, .ref (u2.1 19), .ref (u2.1 20), .ref (u2.1 21), .int 0, .ref (u2.1 23), .ref (u2.1 24), .ref (u2.1 25), .ref (u2.1 26), .ref (u2.1 27), .ref (u2.1 28), .int 0, .int 0, .int 0, .int 0, .ref (u2.1 33), .int (-1), .ref (u2.1 35), .int 0, .int 0])), ((u2.1 1), .inl (cy 0, 4, .inl (fun _ => 0))), ((u2.1 10), .inl (cy 0, 68, .inl (fun _ => 0)))] := hD
  refine lv_astore_n (lv' := [(2, .ref q_2), (1, .ref q_1), (0, .ref b)]) hx hb dL_law__15 rfl hlv (by decide) rfl (fun ls hlv => ?_)
  refine lv_iconst (v := 1) hx hb dL_law__16 (by decide) ?_
  refine nw_a (atype := .long) (cy := cy) (a0 := (1, .inr (.inl (fun _ => 0)))) (N' := 1) hx hb ac2 (ty := .long) rfl 2 rfl (fun C h => nomatch h) hG.1 hP hD hS hA (fun cA => rfl) (by decide) (by decide) (Nat.le_of_ble_eq_true rfl) (Nat.le_of_ble_eq_true rfl) (Nat.le_of_ble_eq_true rfl) dL_law__17 (fun q_3 H hP hD hS => ?_)
  have hP : va_P D vwCl [(q_1, .inr (11, [.ref (u1.1 0), .ref (u1.1 1), .ref (u1.1 2), .int 0, .int 0, .ref (u1.1 5), .ref (u1.1 6), .ref (u1.1 7), .ref (u1.1 8), .ref (u1.1 9), .int 0, .ref (u1.1 11), .ref (u1.1 12), .ref (u1.1 13)])), ((u1.1 5), .inr (6, [.int 0, .int 0, .ref (u1.1 21), .ref (u1.1 22), .int 0, .int 0, .ref (u1.1 23), .int 0, .ref (u1.1 24), .int 0, .int 0, .ref (u1.1 25), .int 0, .ref (u1.1 26), .int 0, .int 0, .int 0, .int 0, .int 0])), ((u1.1 13), .inl (cy 0, 4, .inl (fun _ => 0))), (q_2, .inr (12, [.int 0, .ref (u2.1 1), .int 0, .int 0, .int 0, .int 0, .int 0, .int 0, .int (-1), .ref (u2.1 9), .ref (u2.1 10), .ref (u2.1 11), .ref (u2.1 12), .ref (u2.1 13), .ref (u2.1 14), .ref (u2.1 15), .int 0, .int 0, .int 0, .ref (u2.1 19), .ref (u2.1 20), .ref (u2.1 21), .int 0, .ref (u2.1 23), .ref (u2.1 24), .ref (u2.1 25), .ref (u2.1 26), .ref (u2.1 27), .ref (u2.1 28), .int 0, .int 0, .int 0, .int 0, .ref (u2.1 33), .int (-1), .ref (u2.1 35), .int 0, .int 0])), ((u2.1 1), .inl (cy 0, 4, .inl (fun _ => 0))), ((u2.1 10), .inl (cy 0, 68, .inl (fun _ => 0))), (q_3, .inl (cy 2, 1, .inr (.inl (fun _ => 0))))] H := hP
  have hD : va_D A [(q_1, .inr (11, [.ref (u1.1 0), .ref (u1.1 1), .ref (u1.1 2), .int 0, .int 0, .ref (u1.1 5), .ref (u1.1 6), .ref (u1.1 7), .ref (u1.1 8), .ref (u1.1 9), .int 0, .ref (u1.1 11), .ref (u1.1 12), .ref (u1.1 13)])), ((u1.1 5), .inr (6, [.int 0, .int 0, .ref (u1.1 21), .ref (u1.1 22), .int 0, .int 0, .ref (u1.1 23), .int 0, .ref (u1.1 24), .int 0, .int 0, .ref (u1.1 25), .int 0, .ref (u1.1 26), .int 0, .int 0, .int 0, .int 0, .int 0])), ((u1.1 13), .inl (cy 0, 4, .inl (fun _ => 0))), (q_2, .inr (12, [.int 0, .ref (u2.1 1), .int 0, .int 0, .int 0, .int 0, .int 0, .int 0, .int (-1), .ref (u2.1 9), .ref (u2.1 10), .ref (u2.1 11), .ref (u2.1 12), .ref (u2.1 13), .ref (u2.1 14), .ref (u2.1 15), .int 0, .int 0, .int 0, .ref (u2.1 19), .ref (u2.1 20), .ref (u2.1 21), .int 0, .ref (u2.1 23), .ref (u2.1 24), .ref (u2.1 25), .ref (u2.1 26), .ref (u2.1 27), .ref (u2.1 28), .int 0, .int 0, .int 0, .int 0, .ref (u2.1 33), .int (-1), .ref (u2.1 35), .int 0, .int 0])), ((u2.1 1), .inl (cy 0, 4, .inl (fun _ => 0))), ((u2.1 10), .inl (cy 0, 68, .inl (fun _ => 0))), (q_3, .inl (cy 2, 1, .inr (.inl (fun _ => 0))))] := hD
  refine lv_astore_n (lv' := [(3, .ref q_3), (2, .ref q_2), (1, .ref q_1), (0, .ref b)]) hx hb dL_law__19 rfl hlv (by decide) rfl (fun ls hlv => ?_)
  refine lv_iconst (v := 0) hx hb dL_law__20 (by decide) ?_
  refine lv_istore (lv' := [(4, .int 0), (3, .ref q_3), (2, .ref q_2), (1, .ref q_1), (0, .ref b)]) hx hb dL_law__21 hlv (by decide) rfl (fun ls hlv => ?_)
  refine lv_iload hx hb dL_law__23 (lv_at hlv 0 rfl) ?_
  refine lv_aload_n hx hb dL_law__25 rfl (lv_at hlv 4 rfl) ?_
  refine va_slen hx hb hX hbl hbA hS dL_law__26 ?_
  refine lt_i (y := 10) (by decide) ?_
  refine lv_bipush (v := 10) hx hb dL_law__27 (by decide) ?_
  refine lv_isub hx hb dL_law__29 ?_
  refine lt_i (y := 0) (by decide) ?_
  refine lv_icmp_gt (tgt := 2761) hx hb dL_law__30 (by decide) (fun c => absurd c (by decide)) (fun _ => ?_)
  refine lv_aload_n hx hb dL_law__33 rfl (lv_at hlv 4 rfl) ?_
  refine lv_iload hx hb dL_law__34 (lv_at hlv 0 rfl) ?_
  refine va_sld hx hb hX hbl hbA hS (vpd (by decide)) dL_law__36 ?_
  refine lt_i (y := xs 0) rfl ?_
  refine lv_bipush (v := 63) hx hb dL_law__37 (by decide) ?_
  refine lv_iand hx hb dL_law__39 ?_
  refine lt_i (y := 33) h63 ?_
  refine lv_tableIn (tgt := 2611) hx hb dL_law__40 (by decide) (by decide) rfl (by decide) ?_
  refine lv_aload_n hx hb dL_law__2611 rfl (lv_at hlv 3 rfl) ?_
  refine lv_aload_n hx hb dL_law__2612 rfl (lv_at hlv 4 rfl) ?_
  refine lv_iload hx hb dL_law__2613 (lv_at hlv 0 rfl) ?_
  refine lv_iconst (v := 1) hx hb dL_law__2615 (by decide) ?_
  refine lv_iadd hx hb dL_law__2616 ?_
  refine lt_i (y := 1) (by decide) ?_
  refine va_sld hx hb hX hbl hbA hS (vpd (by decide)) dL_law__2617 ?_
  refine lt_i (y := xs 1) rfl ?_
  refine lv_aload_n hx hb dL_law__2618 rfl (lv_at hlv 4 rfl) ?_
  refine lv_iload hx hb dL_law__2619 (lv_at hlv 0 rfl) ?_
  refine lv_iconst (v := 2) hx hb dL_law__2621 (by decide) ?_
  refine lv_iadd hx hb dL_law__2622 ?_
  refine lt_i (y := 2) (by decide) ?_
  refine va_sld hx hb hX hbl hbA hS (vpd (by decide)) dL_law__2623 ?_
  refine lt_i (y := xs 2) rfl ?_
  refine lv_aload_n hx hb dL_law__2624 rfl (lv_at hlv 1 rfl) ?_
  refine cj_i (wr := [(q_2, .inr (12, [.int 0, .ref (u2.1 1), .int 0, .int 0, .int 0, .int 0, .int 0, .int 0, .int (-1), .ref (u2.1 9), .ref (u2.1 10), .ref (u2.1 11), .ref (u2.1 12), .ref (u2.1 13), .ref (u2.1 14), .ref (u2.1 15), .int 0, .int 0, .int 0, .ref (u2.1 19), .ref (u2.1 20), .ref (u2.1 21), .int 0, .ref (u2.1 23), .ref (u2.1 24), .ref (u2.1 25), .ref (u2.1 26), .ref (u2.1 27), .ref (u2.1 28), .int 0, .int 0, .int 0, .int 0, .ref (u2.1 33), .int (-1), .ref (u2.1 35), .int 0, .int 0])), ((u2.1 1), .inl (cy 0, 4, .inl (fun _ => 0))), ((u2.1 10), .inl (cy 0, 68, .inl (fun _ => 0)))]) (vx_runSW (As := [.ref q_1, .int (xs 1), .int (xs 2), .ref q_3]) (rest := []) ⟨hx, hb, hml, hown, hts⟩ (w_ice l hl D cy sa q_1 u1.1 (xs 1) (xs 2) q_3 H.size) (vx_cwSW 4 hts gl_w_ice rfl rfl rfl (by decide +kernel) ⟨Nat.le_of_ble_eq_true rfl, Nat.le_of_ble_eq_true rfl⟩) ⟨pcW.blind, (pcW.mk hP hD hS hA hG hT [0, 1, 2, 6] rfl (by decide))⟩ rfl rfl hlv.1 rfl (lv_room (Nat.le_of_ble_eq_true rfl)) dL_law__2625 ⟨Nat.le_of_ble_eq_true rfl, Nat.le_of_ble_eq_true rfl⟩) hP hD hS hA [0, 1, 2, 6] [3, 4, 5] rfl rfl (by decide) (by decide) (fun r3 u3 H locs hw3 hP hD hS => ?_)
  rcases hw3 with ⟨hg3, rfl, he3_0⟩ | ⟨hg3, rfl⟩
  · rw [he3_0] at hP hD
    have hP : va_P D vwCl [(q_2, .inr (12, [.int 0, .ref (u2.1 1), .int 0, .int 0, .int 0, .int 0, .int 0, .int 0, .int (-1), .ref (u2.1 9), .ref (u2.1 10), .ref (u2.1 11), .ref (u2.1 12), .ref (u2.1 13), .ref (u2.1 14), .ref (u2.1 15), .int 0, .int 0, .int 0, .ref (u2.1 19), .ref (u2.1 20), .ref (u2.1 21), .int 0, .ref (u2.1 23), .ref (u2.1 24), .ref (u2.1 25), .ref (u2.1 26), .ref (u2.1 27), .ref (u2.1 28), .int 0, .int 0, .int 0, .int 0, .ref (u2.1 33), .int (-1), .ref (u2.1 35), .int 0, .int 0])), ((u2.1 1), .inl (cy 0, 4, .inl (fun _ => 0))), ((u2.1 10), .inl (cy 0, 68, .inl (fun _ => 0))), (q_3, .inl (cy 2, 1, .inr (.inl (fun _ => (0 : Int32).toInt64))))] H := hP
    have hD : va_D A [(q_2, .inr (12, [.int 0, .ref (u2.1 1), .int 0, .int 0, .int 0, .int 0, .int 0, .int 0, .int (-1), .ref (u2.1 9), .ref (u2.1 10), .ref (u2.1 11), .ref (u2.1 12), .ref (u2.1 13), .ref (u2.1 14), .ref (u2.1 15), .int 0, .int 0, .int 0, .ref (u2.1 19), .ref (u2.1 20), .ref (u2.1 21), .int 0, .ref (u2.1 23), .ref (u2.1 24), .ref (u2.1 25), .ref (u2.1 26), .ref (u2.1 27), .ref (u2.1 28), .int 0, .int 0, .int 0, .int 0, .ref (u2.1 33), .int (-1), .ref (u2.1 35), .int 0, .int 0])), ((u2.1 1), .inl (cy 0, 4, .inl (fun _ => 0))), ((u2.1 10), .inl (cy 0, 68, .inl (fun _ => 0))), (q_3, .inl (cy 2, 1, .inr (.inl (fun _ => (0 : Int32).toInt64))))] := hD
    refine lv_istore (lv' := [(5, .int 0), (4, .int 0), (3, .ref q_3), (2, .ref q_2), (1, .ref q_1), (0, .ref b)]) hx hb dL_law__2628 hlv (by decide) rfl (fun ls hlv => ?_)
    refine lv_aload_n hx hb dL_law__2630 rfl (lv_at hlv 3 rfl) ?_
    refine lv_aload_n hx hb dL_law__2631 rfl (lv_at hlv 5 rfl) ?_
    refine lv_iload hx hb dL_law__2632 (lv_at hlv 1 rfl) ?_
    refine lv_iconst (v := 1) hx hb dL_law__2634 (by decide) ?_
    refine lv_iadd hx hb dL_law__2635 ?_
    refine lt_i (y := 1) (by decide) ?_
    refine va_sld hx hb hX hbl hbA hS (vpd (by decide)) dL_law__2636 ?_
    refine lt_i (y := xs 1) rfl ?_
    refine lv_aload_n hx hb dL_law__2637 rfl (lv_at hlv 5 rfl) ?_
    refine lv_iload hx hb dL_law__2638 (lv_at hlv 1 rfl) ?_
    refine lv_iconst (v := 2) hx hb dL_law__2640 (by decide) ?_
    refine lv_iadd hx hb dL_law__2641 ?_
    refine lt_i (y := 2) (by decide) ?_
    refine va_sld hx hb hX hbl hbA hS (vpd (by decide)) dL_law__2642 ?_
    refine lt_i (y := xs 2) rfl ?_
    refine cj_i (wr := [(q_3, .inl (cy 2, 1, .inr (.inl (fun _ => (0 : Int32).toInt64))))]) (va_runV (As := [.int (xs 1), .int (xs 2)]) (rest := []) ⟨hx, hb, hml, hown, hts⟩ (m_ice l hl D cy sa q_2 u2.1 (xs 1) (xs 2) H.size) (cwV 2 hts gl_m_ice rfl rfl rfl (by decide +kernel) ⟨Nat.le_of_ble_eq_true rfl, Nat.le_of_ble_eq_true rfl⟩) ⟨pcW.blind, (va_recv hG.1 hP (ci := 12) (q0 := 0) rfl rfl), (pcW.mk hP hD hS hA hG hT [0, 1, 2] rfl (by decide))⟩ rfl rfl hlv.1 rfl (lv_room (Nat.le_of_ble_eq_true rfl)) dL_law__2643 ⟨Nat.le_of_ble_eq_true rfl, Nat.le_of_ble_eq_true rfl⟩) hP hD hS hA [0, 1, 2] [3] rfl rfl (by decide) (by decide) (fun r4 u4 H locs hw4 hP hD hS => ?_)
    rcases hw4 with ⟨hg4, rfl, he4_0⟩ | ⟨hg4, rfl, he4_0⟩
    · exact absurd hg4 (fun q => absurd ⟨hg3.1, hg3.2⟩ q)
    · rw [he4_0] at hP hD
      have hP : va_P D vwCl [(q_3, .inl (cy 2, 1, .inr (.inl (fun _ => (0 : Int32).toInt64)))), (q_2, .inr (12, [.int 0, .ref (u2.1 1), .int 0, .int 0, .int 0, .int 0, .int 0, .int 0, .int (-1), .ref (u2.1 9), .ref (u2.1 10), .ref (u2.1 11), .ref (u2.1 12), .ref (u2.1 13), .ref (u2.1 14), .ref (u2.1 15), .int 0, .int 0, .int 0, .ref (u2.1 19), .ref (u2.1 20), .ref (u2.1 21), .int 0, .ref (u2.1 23), .ref (u2.1 24), .ref (u2.1 25), .ref (u2.1 26), .ref (u2.1 27), .ref (u2.1 28), .int 0, .int 0, .int 0, .int 0, .ref (u2.1 33), .int (-1), .ref (u2.1 35), .int 0, .int 0]))] H := hP
      have hD : va_D A [(q_3, .inl (cy 2, 1, .inr (.inl (fun _ => (0 : Int32).toInt64)))), (q_2, .inr (12, [.int 0, .ref (u2.1 1), .int 0, .int 0, .int 0, .int 0, .int 0, .int 0, .int (-1), .ref (u2.1 9), .ref (u2.1 10), .ref (u2.1 11), .ref (u2.1 12), .ref (u2.1 13), .ref (u2.1 14), .ref (u2.1 15), .int 0, .int 0, .int 0, .ref (u2.1 19), .ref (u2.1 20), .ref (u2.1 21), .int 0, .ref (u2.1 23), .ref (u2.1 24), .ref (u2.1 25), .ref (u2.1 26), .ref (u2.1 27), .ref (u2.1 28), .int 0, .int 0, .int 0, .int 0, .ref (u2.1 33), .int (-1), .ref (u2.1 35), .int 0, .int 0]))] := hD
      refine lv_istore (lv' := [(6, .int 0), (5, .int 0), (4, .int 0), (3, .ref q_3), (2, .ref q_2), (1, .ref q_1), (0, .ref b)]) hx hb dL_law__2646 hlv (by decide) rfl (fun ls hlv => ?_)
      refine lv_aload_n hx hb dL_law__2648 rfl (lv_at hlv 4 rfl) ?_
      refine cj_i (wr := [(q_3, .inl (cy 2, 1, .inr (.inl (fun _ => (0 : Int32).toInt64))))]) (va_runV (As := []) (rest := []) ⟨hx, hb, hml, hown, hts⟩ (c_thrown l hl D cy sa q_2 u2.1 0 0 0 0 0 0 0 (-1) 0 0 0 0 0 0 0 0 (-1) 0 0 H.size) (cwV 0 hts gl_c_thrown rfl rfl rfl (by decide +kernel) ⟨Nat.le_of_ble_eq_true rfl, Nat.le_of_ble_eq_true rfl⟩) ⟨pcW.blind, (va_recv hG.1 hP (ci := 12) (q0 := 1) rfl rfl), (pcW.mk hP hD hS hA hG hT [1] rfl (by decide))⟩ rfl rfl hlv.1 rfl (lv_room (Nat.le_of_ble_eq_true rfl)) dL_law__2649 ⟨Nat.le_of_ble_eq_true rfl, Nat.le_of_ble_eq_true rfl⟩) hP hD hS hA [1] [0] rfl rfl (by decide) (by decide) (fun r5 u5 H locs hw5 hP hD hS => ?_)
      obtain rfl := hw5
      have hP : va_P D vwCl [(q_3, .inl (cy 2, 1, .inr (.inl (fun _ => (0 : Int32).toInt64))))] H := hP
      have hD : va_D A [(q_3, .inl (cy 2, 1, .inr (.inl (fun _ => (0 : Int32).toInt64))))] := hD
      refine lv_iload hx hb dL_law__2652 (lv_at hlv 1 rfl) ?_
      refine lv_icmp_eq (tgt := 2659) hx hb dL_law__2654 (by decide) (fun _ => ?_) (fun c => absurd (by decide) c)
      refine lv_iload hx hb dL_law__2659 (lv_at hlv 1 rfl) ?_
      refine lv_if_ne (tgt := 2676) hx hb dL_law__2661 (by decide) (fun c => absurd (by decide) c) (fun _ => ?_)
      refine lv_aload_n hx hb dL_law__2664 rfl (lv_at hlv 3 rfl) ?_
      refine lv_iconst (v := 0) hx hb dL_law__2665 (by decide) ?_
      refine va_lald hx hb hG.1 hP 0 2 rfl rfl (vpd (by decide)) dL_law__2666 ?_
      refine ltv (y := .long ((0 : Int32).toInt64)) rfl ?_
      refine lv_iload hx hb dL_law__2667 (lv_at hlv 0 rfl) ?_
      refine lv_i2l (v := (0 : Int32).toInt64) hx hb dL_law__2669 rfl ?_
      refine W.lcmp hx hb dL_law__2670 ?_
      refine lt_i (y := 0) (lcmp_self _) ?_
      refine lv_if_eq (tgt := 2676) hx hb dL_law__2671 (by decide) (fun _ => ?_) (fun c => absurd (by decide) c)
      refine lv_goto (tgt := 2755) hx hb dL_law__2676 (by decide) ?_
      refine lv_iinc (v := 10) (lv' := [(4, .int 10), (6, .int 0), (5, .int 0), (3, .ref q_3), (2, .ref q_2), (1, .ref q_1), (0, .ref b)]) hx hb dL_law__2755 hlv (k := 2) rfl (by decide) (by decide) rfl (fun ls hlv => ?_)
      refine lv_goto (tgt := 23) hx hb dL_law__2758 (by decide) ?_
      refine lv_iload hx hb dL_law__23 (lv_at hlv 0 rfl) ?_
      refine lv_aload_n hx hb dL_law__25 rfl (lv_at hlv 6 rfl) ?_
      refine va_slen hx hb hX hbl hbA hS dL_law__26 ?_
      refine lt_i (y := 10) (by decide) ?_
      refine lv_bipush (v := 10) hx hb dL_law__27 (by decide) ?_
      refine lv_isub hx hb dL_law__29 ?_
      refine lt_i (y := 0) (by decide) ?_
      refine lv_icmp_gt (tgt := 2761) hx hb dL_law__30 (by decide) (fun _ => ?_) (fun c => absurd (by decide) c)
      refine lv_iconst (v := 1) hx hb dL_law__2761 (by decide) ?_
      refine va_forget (fun q hq => by have h9 := hS.2.2 q hq; rw [hAe] at h9; exact h9) ?_
      refine W.widen (k := 600002) (n := 7302232) (Nat.le_of_ble_eq_true rfl) (Nat.le_of_ble_eq_true rfl) ?_
      exact lw_ret hx hb hr hlocks dL_law__2762
  · have hP : va_P D vwCl [(q_2, .inr (12, [.int 0, .ref (u2.1 1), .int 0, .int 0, .int 0, .int 0, .int 0, .int 0, .int (-1), .ref (u2.1 9), .ref (u2.1 10), .ref (u2.1 11), .ref (u2.1 12), .ref (u2.1 13), .ref (u2.1 14), .ref (u2.1 15), .int 0, .int 0, .int 0, .ref (u2.1 19), .ref (u2.1 20), .ref (u2.1 21), .int 0, .ref (u2.1 23), .ref (u2.1 24), .ref (u2.1 25), .ref (u2.1 26), .ref (u2.1 27), .ref (u2.1 28), .int 0, .int 0, .int 0, .int 0, .ref (u2.1 33), .int (-1), .ref (u2.1 35), .int 0, .int 0])), ((u2.1 1), .inl (cy 0, 4, .inl (fun _ => 0))), ((u2.1 10), .inl (cy 0, 68, .inl (fun _ => 0))), (q_3, .inl (cy 2, 1, .inr (.inl (fun _ => (u3.2.1 0 : Int32).toInt64))))] H := hP
    have hD : va_D A [(q_2, .inr (12, [.int 0, .ref (u2.1 1), .int 0, .int 0, .int 0, .int 0, .int 0, .int 0, .int (-1), .ref (u2.1 9), .ref (u2.1 10), .ref (u2.1 11), .ref (u2.1 12), .ref (u2.1 13), .ref (u2.1 14), .ref (u2.1 15), .int 0, .int 0, .int 0, .ref (u2.1 19), .ref (u2.1 20), .ref (u2.1 21), .int 0, .ref (u2.1 23), .ref (u2.1 24), .ref (u2.1 25), .ref (u2.1 26), .ref (u2.1 27), .ref (u2.1 28), .int 0, .int 0, .int 0, .int 0, .ref (u2.1 33), .int (-1), .ref (u2.1 35), .int 0, .int 0])), ((u2.1 1), .inl (cy 0, 4, .inl (fun _ => 0))), ((u2.1 10), .inl (cy 0, 68, .inl (fun _ => 0))), (q_3, .inl (cy 2, 1, .inr (.inl (fun _ => (u3.2.1 0 : Int32).toInt64))))] := hD
    refine lv_istore (lv' := [(5, .int 1), (4, .int 0), (3, .ref q_3), (2, .ref q_2), (1, .ref q_1), (0, .ref b)]) hx hb dL_law__2628 hlv (by decide) rfl (fun ls hlv => ?_)
    refine lv_aload_n hx hb dL_law__2630 rfl (lv_at hlv 3 rfl) ?_
    refine lv_aload_n hx hb dL_law__2631 rfl (lv_at hlv 5 rfl) ?_
    refine lv_iload hx hb dL_law__2632 (lv_at hlv 1 rfl) ?_
    refine lv_iconst (v := 1) hx hb dL_law__2634 (by decide) ?_
    refine lv_iadd hx hb dL_law__2635 ?_
    refine lt_i (y := 1) (by decide) ?_
    refine va_sld hx hb hX hbl hbA hS (vpd (by decide)) dL_law__2636 ?_
    refine lt_i (y := xs 1) rfl ?_
    refine lv_aload_n hx hb dL_law__2637 rfl (lv_at hlv 5 rfl) ?_
    refine lv_iload hx hb dL_law__2638 (lv_at hlv 1 rfl) ?_
    refine lv_iconst (v := 2) hx hb dL_law__2640 (by decide) ?_
    refine lv_iadd hx hb dL_law__2641 ?_
    refine lt_i (y := 2) (by decide) ?_
    refine va_sld hx hb hX hbl hbA hS (vpd (by decide)) dL_law__2642 ?_
    refine lt_i (y := xs 2) rfl ?_
    refine cj_i (wr := [(q_3, .inl (cy 2, 1, .inr (.inl (fun _ => (u3.2.1 0 : Int32).toInt64))))]) (va_runV (As := [.int (xs 1), .int (xs 2)]) (rest := []) ⟨hx, hb, hml, hown, hts⟩ (m_ice l hl D cy sa q_2 u2.1 (xs 1) (xs 2) H.size) (cwV 2 hts gl_m_ice rfl rfl rfl (by decide +kernel) ⟨Nat.le_of_ble_eq_true rfl, Nat.le_of_ble_eq_true rfl⟩) ⟨pcW.blind, (va_recv hG.1 hP (ci := 12) (q0 := 0) rfl rfl), (pcW.mk hP hD hS hA hG hT [0, 1, 2] rfl (by decide))⟩ rfl rfl hlv.1 rfl (lv_room (Nat.le_of_ble_eq_true rfl)) dL_law__2643 ⟨Nat.le_of_ble_eq_true rfl, Nat.le_of_ble_eq_true rfl⟩) hP hD hS hA [0, 1, 2] [3] rfl rfl (by decide) (by decide) (fun r6 u6 H locs hw6 hP hD hS => ?_)
    rcases hw6 with ⟨hg6, rfl, he6_0⟩ | ⟨hg6, rfl, he6_0⟩
    · rw [he6_0] at hP hD
      have hP : va_P D vwCl [(q_3, .inl (cy 2, 1, .inr (.inl (fun _ => (u3.2.1 0 : Int32).toInt64)))), (q_2, .inr (12, [.int 1, .ref (u2.1 1), .int 0, .int 0, .int 0, .int 0, .int 0, .int 0, .int (-1), .ref (u2.1 9), .ref (u2.1 10), .ref (u2.1 11), .ref (u2.1 12), .ref (u2.1 13), .ref (u2.1 14), .ref (u2.1 15), .int 0, .int 0, .int 0, .ref (u2.1 19), .ref (u2.1 20), .ref (u2.1 21), .int 0, .ref (u2.1 23), .ref (u2.1 24), .ref (u2.1 25), .ref (u2.1 26), .ref (u2.1 27), .ref (u2.1 28), .int 0, .int 0, .int 0, .int 0, .ref (u2.1 33), .int (-1), .ref (u2.1 35), .int 0, .int 0]))] H := hP
      have hD : va_D A [(q_3, .inl (cy 2, 1, .inr (.inl (fun _ => (u3.2.1 0 : Int32).toInt64)))), (q_2, .inr (12, [.int 1, .ref (u2.1 1), .int 0, .int 0, .int 0, .int 0, .int 0, .int 0, .int (-1), .ref (u2.1 9), .ref (u2.1 10), .ref (u2.1 11), .ref (u2.1 12), .ref (u2.1 13), .ref (u2.1 14), .ref (u2.1 15), .int 0, .int 0, .int 0, .ref (u2.1 19), .ref (u2.1 20), .ref (u2.1 21), .int 0, .ref (u2.1 23), .ref (u2.1 24), .ref (u2.1 25), .ref (u2.1 26), .ref (u2.1 27), .ref (u2.1 28), .int 0, .int 0, .int 0, .int 0, .ref (u2.1 33), .int (-1), .ref (u2.1 35), .int 0, .int 0]))] := hD
      refine lv_istore (lv' := [(6, .int 0), (5, .int 1), (4, .int 0), (3, .ref q_3), (2, .ref q_2), (1, .ref q_1), (0, .ref b)]) hx hb dL_law__2646 hlv (by decide) rfl (fun ls hlv => ?_)
      refine lv_aload_n hx hb dL_law__2648 rfl (lv_at hlv 4 rfl) ?_
      refine cj_i (wr := [(q_3, .inl (cy 2, 1, .inr (.inl (fun _ => (u3.2.1 0 : Int32).toInt64))))]) (va_runV (As := []) (rest := []) ⟨hx, hb, hml, hown, hts⟩ (c_thrown l hl D cy sa q_2 u2.1 1 0 0 0 0 0 0 (-1) 0 0 0 0 0 0 0 0 (-1) 0 0 H.size) (cwV 0 hts gl_c_thrown rfl rfl rfl (by decide +kernel) ⟨Nat.le_of_ble_eq_true rfl, Nat.le_of_ble_eq_true rfl⟩) ⟨pcW.blind, (va_recv hG.1 hP (ci := 12) (q0 := 1) rfl rfl), (pcW.mk hP hD hS hA hG hT [1] rfl (by decide))⟩ rfl rfl hlv.1 rfl (lv_room (Nat.le_of_ble_eq_true rfl)) dL_law__2649 ⟨Nat.le_of_ble_eq_true rfl, Nat.le_of_ble_eq_true rfl⟩) hP hD hS hA [1] [0] rfl rfl (by decide) (by decide) (fun r7 u7 H locs hw7 hP hD hS => ?_)
      obtain rfl := hw7
      have hP : va_P D vwCl [(q_3, .inl (cy 2, 1, .inr (.inl (fun _ => (u3.2.1 0 : Int32).toInt64))))] H := hP
      have hD : va_D A [(q_3, .inl (cy 2, 1, .inr (.inl (fun _ => (u3.2.1 0 : Int32).toInt64))))] := hD
      refine lv_iload hx hb dL_law__2652 (lv_at hlv 1 rfl) ?_
      refine lv_icmp_eq (tgt := 2659) hx hb dL_law__2654 (by decide) (fun _ => ?_) (fun c => absurd (by decide) c)
      refine lv_iload hx hb dL_law__2659 (lv_at hlv 1 rfl) ?_
      refine lv_if_ne (tgt := 2676) hx hb dL_law__2661 (by decide) (fun _ => ?_) (fun c => absurd c (by decide))
      refine lv_goto (tgt := 2755) hx hb dL_law__2676 (by decide) ?_
      refine lv_iinc (v := 10) (lv' := [(4, .int 10), (6, .int 0), (5, .int 1), (3, .ref q_3), (2, .ref q_2), (1, .ref q_1), (0, .ref b)]) hx hb dL_law__2755 hlv (k := 2) rfl (by decide) (by decide) rfl (fun ls hlv => ?_)
      refine lv_goto (tgt := 23) hx hb dL_law__2758 (by decide) ?_
      refine lv_iload hx hb dL_law__23 (lv_at hlv 0 rfl) ?_
      refine lv_aload_n hx hb dL_law__25 rfl (lv_at hlv 6 rfl) ?_
      refine va_slen hx hb hX hbl hbA hS dL_law__26 ?_
      refine lt_i (y := 10) (by decide) ?_
      refine lv_bipush (v := 10) hx hb dL_law__27 (by decide) ?_
      refine lv_isub hx hb dL_law__29 ?_
      refine lt_i (y := 0) (by decide) ?_
      refine lv_icmp_gt (tgt := 2761) hx hb dL_law__30 (by decide) (fun _ => ?_) (fun c => absurd (by decide) c)
      refine lv_iconst (v := 1) hx hb dL_law__2761 (by decide) ?_
      refine va_forget (fun q hq => by have h9 := hS.2.2 q hq; rw [hAe] at h9; exact h9) ?_
      refine W.widen (k := 600002) (n := 7302232) (Nat.le_of_ble_eq_true rfl) (Nat.le_of_ble_eq_true rfl) ?_
      exact lw_ret hx hb hr hlocks dL_law__2762
    · exact absurd hg6 hg3
set_option maxHeartbeats 4000000 in
set_option maxRecDepth 100000 in
theorem law_image {p : Program} {e : Env} {s : State} {m : MethodId} {below : List Frame} {meth : Method} {c : Code} (l : Launch) (hl : l.stackTraces = false) {b : Nat} {xs : Nat → Int32} {D : va_G} {cy : Nat → ClassId} {sa : Nat → Nat} {A : Nat → Prop} (hAe : A = fun q => s.heap.size ≤ q) (C0 : lw_At p s m meth c b 10 xs) (hG : GC D cy sa s) (hT : TH A s s.heap) (h63 : xs 0 &&& 63 = 34) : W p l e room_1 s m #[Value.ref b] below meth c s.heap [] 0 0 (lw_Z below #[Value.ref b] s) (entryFrame m ([Value.ref b] : List Value).toArray 7) := by
  obtain ⟨hx, hb, hr, hml, hown0, hts0, hX, hbl, hlocks, hgv⟩ := id C0
  have hown : s.vm.findClass RL = some m.cls := hown0
  have hts := hts0
  have hA : ∀ q : Nat, s.heap.size ≤ q → A q := fun q h => by rw [hAe]; exact h
  have hbA : ¬ A b := by rw [hAe]; exact Nat.not_le.mpr hbl
  have hS : va_S A s.heap s.heap [] := va_S.rf
  have hP : va_P D vwCl [] s.heap := fun k q h => by simp at h
  have hD : va_D A [] := ⟨fun i j p q h => by simp at h, fun k q h => by simp at h⟩
  have hl0 := lv_entry ([.ref b]) (n := 7) (Nat.le_of_ble_eq_true rfl)
  rw [lg_entry_eq]
  generalize (lg_sl ([.ref b]) ++ List.replicate (7 - (lg_sl ([.ref b])).length) Slot.unset).toArray = ls at hl0 ⊢
  have hlv : lv_has ls 7 [(0, .ref b)] := hl0
  have cl8 := hts (.classLink RL 8 RX11) lwd_0
  have in11 := hts (.instantiable RX11 14) lwd_1
  have ini11 := hts (.initialized RX11) lwd_2
  have ini_RX11 := hts (.initialized RX11) lwd_2
  have ml117 := hts (.methodLink RL 117 yX11_init) lwd_3
  have im_X11_init := hts (.instanceMethod yX11_init) lwd_4
  have cl118 := hts (.classLink RL 118 RX12) lwd_5
  have in12 := hts (.instantiable RX12 38) lwd_6
  have ini12 := hts (.initialized RX12) lwd_7
  have ini_RX12 := hts (.initialized RX12) lwd_7
  have ml120 := hts (.methodLink RL 120 yX12_init) lwd_8
  have im_X12_init := hts (.instanceMethod yX12_init) lwd_9
  have ac2 := hts (.arrayClass .long) lwd_10
  refine va_new (ci := 11) (fs := [.null, .null, .null, .int 0, .int 0, .null, .null, .null, .null, .null, .int 0, .null, .null, .null]) (C := RX11) (T := TX11) (N := 14) hx hb hts inX11 tyX11 tyX11_ok hown cl8 in11 ini11 hG.1 hP hD hS hA rfl (by decide) (Nat.le_of_ble_eq_true rfl) (Nat.le_of_ble_eq_true rfl) dL_law__0 (fun q_1 H hP hD hS => ?_)
  have hP : va_P D vwCl [(q_1, .inr (11, [.null, .null, .null, .int 0, .int 0, .null, .null, .null, .null, .null, .int 0, .null, .null, .null]))] H := hP
  have hD : va_D A [(q_1, .inr (11, [.null, .null, .null, .int 0, .int 0, .null, .null, .null, .null, .null, .int 0, .null, .null, .null]))] := hD
  refine lv_dup hx hb dL_law__3 rfl ?_
  refine cj_v (wr := []) (va_runI (As := []) (rest := [.ref q_1]) ⟨hx, hb, hml, hown, hts⟩ (c_K_image l hl D cy sa q_1 H.size) (cwI 0 hts gl_X11_init rfl rfl rfl ini_RX11 ml117 im_X11_init rfl (by decide +kernel) ⟨Nat.le_of_ble_eq_true rfl, Nat.le_of_ble_eq_true rfl⟩) ⟨pcW.blind, (pcW.mk hP hD hS hA hG hT [0] rfl (by decide))⟩ rfl rfl hlv.1 rfl (lv_room (Nat.le_of_ble_eq_true rfl)) dL_law__4 ⟨Nat.le_of_ble_eq_true rfl, Nat.le_of_ble_eq_true rfl⟩) hP hD hS hA [0] [] rfl rfl (by decide) (by decide) (fun u1 H locs hw1 hP hD hS => ?_)
  have hP : va_P D vwCl [(q_1, .inr (11, [.ref (u1.1 0), .ref (u1.1 1), .ref (u1.1 2), .int 0, .int 0, .ref (u1.1 5), .ref (u1.1 6), .ref (u1.1 7), .ref (u1.1 8), .ref (u1.1 9), .int 0, .ref (u1.1 11), .ref (u1.1 12), .ref (u1.1 13)])), ((u1.1 8), .inl (cy 3, 3, .inr (.inr (.inr (.inr (fun k => some (u1.1 (120 + k)))))))), ((u1.1 9), .inl (cy 6, 3, .inr (.inr (.inr (.inr (fun k => some (u1.1 (130 + k)))))))), ((u1.1 120), .inr (6, [.int 0, .int 0, .ref (u1.1 61), .ref (u1.1 62), .int 0, .int 0, .ref (u1.1 63), .int 0, .ref (u1.1 64), .int 0, .int 0, .ref (u1.1 65), .int 0, .ref (u1.1 66), .int 0, .int 0, .int 0, .int 0, .int 0])), ((u1.1 61), .inl (cy 0, 96, .inl (fun _ => 0))), ((u1.1 62), .inl (cy 0, 96, .inl (fun _ => 0))), ((u1.1 63), .inl (cy 0, 56, .inl (fun _ => 0))), ((u1.1 64), .inl (cy 0, 112, .inl (fun _ => 0))), ((u1.1 65), .inl (cy 0, 4, .inl (fun _ => 0))), ((u1.1 66), .inl (cy 0, 40, .inl (fun _ => 0))), ((u1.1 5), .inr (6, [.int 0, .int 0, .ref (u1.1 21), .ref (u1.1 22), .int 0, .int 0, .ref (u1.1 23), .int 0, .ref (u1.1 24), .int 0, .int 0, .ref (u1.1 25), .int 0, .ref (u1.1 26), .int 0, .int 0, .int 0, .int 0, .int 0])), ((u1.1 21), .inl (cy 0, 96, .inl (fun _ => 0))), ((u1.1 22), .inl (cy 0, 96, .inl (fun _ => 0))), ((u1.1 23), .inl (cy 0, 56, .inl (fun _ => 0))), ((u1.1 24), .inl (cy 0, 112, .inl (fun _ => 0))), ((u1.1 25), .inl (cy 0, 4, .inl (fun _ => 0))), ((u1.1 26), .inl (cy 0, 40, .inl (fun _ => 0))), ((u1.1 130), .inr (4, [.int 0, .ref (u1.1 71), .int 0, .ref (u1.1 72), .ref (u1.1 73)])), ((u1.1 71), .inl (cy 0, 100, .inl (fun _ => 0))), ((u1.1 72), .inl (cy 0, 27, .inl (fun _ => 0))), ((u1.1 73), .inl (cy 0, 4, .inl shF)), ((u1.1 7), .inr (4, [.int 0, .ref (u1.1 41), .int 0, .ref (u1.1 42), .ref (u1.1 43)])), ((u1.1 41), .inl (cy 0, 100, .inl (fun _ => 0))), ((u1.1 42), .inl (cy 0, 27, .inl (fun _ => 0))), ((u1.1 43), .inl (cy 0, 4, .inl shF))] H := hP
  have hD : va_D A [(q_1, .inr (11, [.ref (u1.1 0), .ref (u1.1 1), .ref (u1.1 2), .int 0, .int 0, .ref (u1.1 5), .ref (u1.1 6), .ref (u1.1 7), .ref (u1.1 8), .ref (u1.1 9), .int 0, .ref (u1.1 11), .ref (u1.1 12), .ref (u1.1 13)])), ((u1.1 8), .inl (cy 3, 3, .inr (.inr (.inr (.inr (fun k => some (u1.1 (120 + k)))))))), ((u1.1 9), .inl (cy 6, 3, .inr (.inr (.inr (.inr (fun k => some (u1.1 (130 + k)))))))), ((u1.1 120), .inr (6, [.int 0, .int 0, .ref (u1.1 61), .ref (u1.1 62), .int 0, .int 0, .ref (u1.1 63), .int 0, .ref (u1.1 64), .int 0, .int 0, .ref (u1.1 65), .int 0, .ref (u1.1 66), .int 0, .int 0, .int 0, .int 0, .int 0])), ((u1.1 61), .inl (cy 0, 96, .inl (fun _ => 0))), ((u1.1 62), .inl (cy 0, 96, .inl (fun _ => 0))), ((u1.1 63), .inl (cy 0, 56, .inl (fun _ => 0))), ((u1.1 64), .inl (cy 0, 112, .inl (fun _ => 0))), ((u1.1 65), .inl (cy 0, 4, .inl (fun _ => 0))), ((u1.1 66), .inl (cy 0, 40, .inl (fun _ => 0))), ((u1.1 5), .inr (6, [.int 0, .int 0, .ref (u1.1 21), .ref (u1.1 22), .int 0, .int 0, .ref (u1.1 23), .int 0, .ref (u1.1 24), .int 0, .int 0, .ref (u1.1 25), .int 0, .ref (u1.1 26), .int 0, .int 0, .int 0, .int 0, .int 0])), ((u1.1 21), .inl (cy 0, 96, .inl (fun _ => 0))), ((u1.1 22), .inl (cy 0, 96, .inl (fun _ => 0))), ((u1.1 23), .inl (cy 0, 56, .inl (fun _ => 0))), ((u1.1 24), .inl (cy 0, 112, .inl (fun _ => 0))), ((u1.1 25), .inl (cy 0, 4, .inl (fun _ => 0))), ((u1.1 26), .inl (cy 0, 40, .inl (fun _ => 0))), ((u1.1 130), .inr (4, [.int 0, .ref (u1.1 71), .int 0, .ref (u1.1 72), .ref (u1.1 73)])), ((u1.1 71), .inl (cy 0, 100, .inl (fun _ => 0))), ((u1.1 72), .inl (cy 0, 27, .inl (fun _ => 0))), ((u1.1 73), .inl (cy 0, 4, .inl shF)), ((u1.1 7), .inr (4, [.int 0, .ref (u1.1 41), .int 0, .ref (u1.1 42), .ref (u1.1 43)])), ((u1.1 41), .inl (cy 0, 100, .inl (fun _ => 0))), ((u1.1 42), .inl (cy 0, 27, .inl (fun _ => 0))), ((u1.1 43), .inl (cy 0, 4, .inl shF))] := hD
  refine lv_astore_n (lv' := [(1, .ref q_1), (0, .ref b)]) hx hb dL_law__7 rfl hlv (by decide) rfl (fun ls hlv => ?_)
  refine va_new (ci := 12) (fs := [.int 0, .null, .int 0, .int 0, .int 0, .int 0, .int 0, .int 0, .int 0, .null, .null, .null, .null, .null, .null, .null, .int 0, .int 0, .int 0, .null, .null, .null, .int 0, .null, .null, .null, .null, .null, .null, .int 0, .int 0, .int 0, .int 0, .null, .int 0, .null, .int 0, .int 0]) (C := RX12) (T := TX12) (N := 38) hx hb hts inX12 tyX12 tyX12_ok hown cl118 in12 ini12 hG.1 hP hD hS hA rfl (by decide) (Nat.le_of_ble_eq_true rfl) (Nat.le_of_ble_eq_true rfl) dL_law__8 (fun q_2 H hP hD hS => ?_)
  have hP : va_P D vwCl [(q_1, .inr (11, [.ref (u1.1 0), .ref (u1.1 1), .ref (u1.1 2), .int 0, .int 0, .ref (u1.1 5), .ref (u1.1 6), .ref (u1.1 7), .ref (u1.1 8), .ref (u1.1 9), .int 0, .ref (u1.1 11), .ref (u1.1 12), .ref (u1.1 13)])), ((u1.1 8), .inl (cy 3, 3, .inr (.inr (.inr (.inr (fun k => some (u1.1 (120 + k)))))))), ((u1.1 9), .inl (cy 6, 3, .inr (.inr (.inr (.inr (fun k => some (u1.1 (130 + k)))))))), ((u1.1 120), .inr (6, [.int 0, .int 0, .ref (u1.1 61), .ref (u1.1 62), .int 0, .int 0, .ref (u1.1 63), .int 0, .ref (u1.1 64), .int 0, .int 0, .ref (u1.1 65), .int 0, .ref (u1.1 66), .int 0, .int 0, .int 0, .int 0, .int 0])), ((u1.1 61), .inl (cy 0, 96, .inl (fun _ => 0))), ((u1.1 62), .inl (cy 0, 96, .inl (fun _ => 0))), ((u1.1 63), .inl (cy 0, 56, .inl (fun _ => 0))), ((u1.1 64), .inl (cy 0, 112, .inl (fun _ => 0))), ((u1.1 65), .inl (cy 0, 4, .inl (fun _ => 0))), ((u1.1 66), .inl (cy 0, 40, .inl (fun _ => 0))), ((u1.1 5), .inr (6, [.int 0, .int 0, .ref (u1.1 21), .ref (u1.1 22), .int 0, .int 0, .ref (u1.1 23), .int 0, .ref (u1.1 24), .int 0, .int 0, .ref (u1.1 25), .int 0, .ref (u1.1 26), .int 0, .int 0, .int 0, .int 0, .int 0])), ((u1.1 21), .inl (cy 0, 96, .inl (fun _ => 0))), ((u1.1 22), .inl (cy 0, 96, .inl (fun _ => 0))), ((u1.1 23), .inl (cy 0, 56, .inl (fun _ => 0))), ((u1.1 24), .inl (cy 0, 112, .inl (fun _ => 0))), ((u1.1 25), .inl (cy 0, 4, .inl (fun _ => 0))), ((u1.1 26), .inl (cy 0, 40, .inl (fun _ => 0))), ((u1.1 130), .inr (4, [.int 0, .ref (u1.1 71), .int 0, .ref (u1.1 72), .ref (u1.1 73)])), ((u1.1 71), .inl (cy 0, 100, .inl (fun _ => 0))), ((u1.1 72), .inl (cy 0, 27, .inl (fun _ => 0))), ((u1.1 73), .inl (cy 0, 4, .inl shF)), ((u1.1 7), .inr (4, [.int 0, .ref (u1.1 41), .int 0, .ref (u1.1 42), .ref (u1.1 43)])), ((u1.1 41), .inl (cy 0, 100, .inl (fun _ => 0))), ((u1.1 42), .inl (cy 0, 27, .inl (fun _ => 0))), ((u1.1 43), .inl (cy 0, 4, .inl shF)), (q_2, .inr (12, [.int 0, .null, .int 0, .int 0, .int 0, .int 0, .int 0, .int 0, .int 0, .null, .null, .null, .null, .null, .null, .null, .int 0, .int 0, .int 0, .null, .null, .null, .int 0, .null, .null, .null, .null, .null, .null, .int 0, .int 0, .int 0, .int 0, .null, .int 0, .null, .int 0, .int 0]))] H := hP
  have hD : va_D A [(q_1, .inr (11, [.ref (u1.1 0), .ref (u1.1 1), .ref (u1.1 2), .int 0, .int 0, .ref (u1.1 5), .ref (u1.1 6), .ref (u1.1 7), .ref (u1.1 8), .ref (u1.1 9), .int 0, .ref (u1.1 11), .ref (u1.1 12), .ref (u1.1 13)])), ((u1.1 8), .inl (cy 3, 3, .inr (.inr (.inr (.inr (fun k => some (u1.1 (120 + k)))))))), ((u1.1 9), .inl (cy 6, 3, .inr (.inr (.inr (.inr (fun k => some (u1.1 (130 + k)))))))), ((u1.1 120), .inr (6, [.int 0, .int 0, .ref (u1.1 61), .ref (u1.1 62), .int 0, .int 0, .ref (u1.1 63), .int 0, .ref (u1.1 64), .int 0, .int 0, .ref (u1.1 65), .int 0, .ref (u1.1 66), .int 0, .int 0, .int 0, .int 0, .int 0])), ((u1.1 61), .inl (cy 0, 96, .inl (fun _ => 0))), ((u1.1 62), .inl (cy 0, 96, .inl (fun _ => 0))), ((u1.1 63), .inl (cy 0, 56, .inl (fun _ => 0))), ((u1.1 64), .inl (cy 0, 112, .inl (fun _ => 0))), ((u1.1 65), .inl (cy 0, 4, .inl (fun _ => 0))), ((u1.1 66), .inl (cy 0, 40, .inl (fun _ => 0))), ((u1.1 5), .inr (6, [.int 0, .int 0, .ref (u1.1 21), .ref (u1.1 22), .int 0, .int 0, .ref (u1.1 23), .int 0, .ref (u1.1 24), .int 0, .int 0, .ref (u1.1 25), .int 0, .ref (u1.1 26), .int 0, .int 0, .int 0, .int 0, .int 0])), ((u1.1 21), .inl (cy 0, 96, .inl (fun _ => 0))), ((u1.1 22), .inl (cy 0, 96, .inl (fun _ => 0))), ((u1.1 23), .inl (cy 0, 56, .inl (fun _ => 0))), ((u1.1 24), .inl (cy 0, 112, .inl (fun _ => 0))), ((u1.1 25), .inl (cy 0, 4, .inl (fun _ => 0))), ((u1.1 26), .inl (cy 0, 40, .inl (fun _ => 0))), ((u1.1 130), .inr (4, [.int 0, .ref (u1.1 71), .int 0, .ref (u1.1 72), .ref (u1.1 73)])), ((u1.1 71), .inl (cy 0, 100, .inl (fun _ => 0))), ((u1.1 72), .inl (cy 0, 27, .inl (fun _ => 0))), ((u1.1 73), .inl (cy 0, 4, .inl shF)), ((u1.1 7), .inr (4, [.int 0, .ref (u1.1 41), .int 0, .ref (u1.1 42), .ref (u1.1 43)])), ((u1.1 41), .inl (cy 0, 100, .inl (fun _ => 0))), ((u1.1 42), .inl (cy 0, 27, .inl (fun _ => 0))), ((u1.1 43), .inl (cy 0, 4, .inl shF)), (q_2, .inr (12, [.int 0, .null, .int 0, .int 0, .int 0, .int 0, .int 0, .int 0, .int 0, .null, .null, .null, .null, .null, .null, .null, .int 0, .int 0, .int 0, .null, .null, .null, .int 0, .null, .null, .null, .null, .null, .null, .int 0, .int 0, .int 0, .int 0, .null, .int 0, .null, .int 0, .int 0]))] := hD
  refine lv_dup hx hb dL_law__11 rfl ?_
  refine cj_v (wr := [(q_1, .inr (11, [.ref (u1.1 0), .ref (u1.1 1), .ref (u1.1 2), .int 0, .int 0, .ref (u1.1 5), .ref (u1.1 6), .ref (u1.1 7), .ref (u1.1 8), .ref (u1.1 9), .int 0, .ref (u1.1 11), .ref (u1.1 12), .ref (u1.1 13)])), ((u1.1 8), .inl (cy 3, 3, .inr (.inr (.inr (.inr (fun k => some (u1.1 (120 + k)))))))), ((u1.1 9), .inl (cy 6, 3, .inr (.inr (.inr (.inr (fun k => some (u1.1 (130 + k)))))))), ((u1.1 120), .inr (6, [.int 0, .int 0, .ref (u1.1 61), .ref (u1.1 62), .int 0, .int 0, .ref (u1.1 63), .int 0, .ref (u1.1 64), .int 0, .int 0, .ref (u1.1 65), .int 0, .ref (u1.1 66), .int 0, .int 0, .int 0, .int 0, .int 0])), ((u1.1 61), .inl (cy 0, 96, .inl (fun _ => 0))), ((u1.1 62), .inl (cy 0, 96, .inl (fun _ => 0))), ((u1.1 63), .inl (cy 0, 56, .inl (fun _ => 0))), ((u1.1 64), .inl (cy 0, 112, .inl (fun _ => 0))), ((u1.1 65), .inl (cy 0, 4, .inl (fun _ => 0))), ((u1.1 66), .inl (cy 0, 40, .inl (fun _ => 0))), ((u1.1 5), .inr (6, [.int 0, .int 0, .ref (u1.1 21), .ref (u1.1 22), .int 0, .int 0, .ref (u1.1 23), .int 0, .ref (u1.1 24), .int 0, .int 0, .ref (u1.1 25), .int 0, .ref (u1.1 26), .int 0, .int 0, .int 0, .int 0, .int 0])), ((u1.1 21), .inl (cy 0, 96, .inl (fun _ => 0))), ((u1.1 22), .inl (cy 0, 96, .inl (fun _ => 0))), ((u1.1 23), .inl (cy 0, 56, .inl (fun _ => 0))), ((u1.1 24), .inl (cy 0, 112, .inl (fun _ => 0))), ((u1.1 25), .inl (cy 0, 4, .inl (fun _ => 0))), ((u1.1 26), .inl (cy 0, 40, .inl (fun _ => 0))), ((u1.1 130), .inr (4, [.int 0, .ref (u1.1 71), .int 0, .ref (u1.1 72), .ref (u1.1 73)])), ((u1.1 71), .inl (cy 0, 100, .inl (fun _ => 0))), ((u1.1 72), .inl (cy 0, 27, .inl (fun _ => 0))), ((u1.1 73), .inl (cy 0, 4, .inl shF)), ((u1.1 7), .inr (4, [.int 0, .ref (u1.1 41), .int 0, .ref (u1.1 42), .ref (u1.1 43)])), ((u1.1 41), .inl (cy 0, 100, .inl (fun _ => 0))), ((u1.1 42), .inl (cy 0, 27, .inl (fun _ => 0))), ((u1.1 43), .inl (cy 0, 4, .inl shF))]) (va_runI (As := []) (rest := [.ref q_2]) ⟨hx, hb, hml, hown, hts⟩ (c_M_image l hl D cy sa q_2 H.size) (cwI 0 hts gl_X12_init rfl rfl rfl ini_RX12 ml120 im_X12_init rfl (by decide +kernel) ⟨Nat.le_of_ble_eq_true rfl, Nat.le_of_ble_eq_true rfl⟩) ⟨pcW.blind, (pcW.mk hP hD hS hA hG hT [25] rfl (by decide))⟩ rfl rfl hlv.1 rfl (lv_room (Nat.le_of_ble_eq_true rfl)) dL_law__12 ⟨Nat.le_of_ble_eq_true rfl, Nat.le_of_ble_eq_true rfl⟩) hP hD hS hA [25] [0, 1, 2, 3, 4, 5, 6, 7, 8, 9, 10, 11, 12, 13, 14, 15, 16, 17, 18, 19, 20, 21, 22, 23, 24] rfl rfl (by decide) (by decide) (fun u2 H locs hw2 hP hD hS => ?_)
  have hP : va_P D vwCl [(q_1, .inr (11, [.ref (u1.1 0), .ref (u1.1 1), .ref (u1.1 2), .int 0, .int 0, .ref (u1.1 5), .ref (u1.1 6), .ref (u1.1 7), .ref (u1.1 8), .ref (u1.1 9), .int 0, .ref (u1.1 11), .ref (u1.1 12), .ref (u1.1 13)])), ((u1.1 8), .inl (cy 3, 3, .inr (.inr (.inr (.inr (fun k => some (u1.1 (120 + k)))))))), ((u1.1 9), .inl (cy 6, 3, .inr (.inr (.inr (.inr (fun k => some (u1.1 (130 + k)))))))), ((u1.1 120), .inr (6, [.int 0, .int 0, .ref (u1.1 61), .ref (u1.1 62), .int 0, .int 0, .ref (u1.1 63), .int 0, .ref (u1.1 64), .int 0, .int 0, .ref (u1.1 65), .int 0, .ref (u1.1 66), .int 0, .int 0, .int 0, .int 0, .int 0])), ((u1.1 61), .inl (cy 0, 96, .inl (fun _ => 0))), ((u1.1 62), .inl (cy 0, 96, .inl (fun _ => 0))), ((u1.1 63), .inl (cy 0, 56, .inl (fun _ => 0))), ((u1.1 64), .inl (cy 0, 112, .inl (fun _ => 0))), ((u1.1 65), .inl (cy 0, 4, .inl (fun _ => 0))), ((u1.1 66), .inl (cy 0, 40, .inl (fun _ => 0))), ((u1.1 5), .inr (6, [.int 0, .int 0, .ref (u1.1 21), .ref (u1.1 22), .int 0, .int 0, .ref (u1.1 23), .int 0, .ref (u1.1 24), .int 0, .int 0, .ref (u1.1 25), .int 0, .ref (u1.1 26), .int 0, .int 0, .int 0, .int 0, .int 0])), ((u1.1 21), .inl (cy 0, 96, .inl (fun _ => 0))), ((u1.1 22), .inl (cy 0, 96, .inl (fun _ => 0))), ((u1.1 23), .inl (cy 0, 56, .inl (fun _ => 0))), ((u1.1 24), .inl (cy 0, 112, .inl (fun _ => 0))), ((u1.1 25), .inl (cy 0, 4, .inl (fun _ => 0))), ((u1.1 26), .inl (cy 0, 40, .inl (fun _ => 0))), ((u1.1 130), .inr (4, [.int 0, .ref (u1.1 71), .int 0, .ref (u1.1 72), .ref (u1.1 73)])), ((u1.1 71), .inl (cy 0, 100, .inl (fun _ => 0))), ((u1.1 72), .inl (cy 0, 27, .inl (fun _ => 0))), ((u1.1 73), .inl (cy 0, 4, .inl shF)), ((u1.1 7), .inr (4, [.int 0, .ref (u1.1 41), .int 0, .ref (u1.1 42), .ref (u1.1 43)])), ((u1.1 41), .inl (cy 0, 100, .inl (fun _ => 0))), ((u1.1 42), .inl (cy 0, 27, .inl (fun _ => 0))), ((u1.1 43), .inl (cy 0, 4, .inl shF)), (q_2, .inr (12, [.int 0, .ref (u2.1 1), .int 0, .int 0, .int 0, .int 0, .int 0, .int 0, .int (-1), .ref (u2.1 9), .ref (u2.1 10), .ref (u2.1 11), .ref (u2.1 12), .ref (u2.1 13), .ref (u2.1 14), .ref (u2.1 15), .int 0, .int 0, .int 0, .ref (u2.1 19), .ref (u2.1 20), .ref (u2.1 21), .int 0, .ref (u2.1 23), .ref (u2.1 24), .ref (u2.1 25), .ref (u2.1 26), .ref (u2.1 27), .ref (u2.1 28), .int 0, .int 0, .int 0, .int 0, .ref (u2.1 33), .int (-1), .ref (u2.1 35), .int 0, .int 0])), ((u2.1 12), .inl (cy 0, 389, .inl sF)), ((u2.1 15), .inl (cy 0, 1167, .inl (fun _ => 0)))] H := hP
  have hD : va_D A [(q_1, .inr (11, [.ref (u1.1 0), .ref (u1.1 1), .ref (u1.1 2), .int 0, .int 0, .ref (u1.1 5), .ref (u1.1 6), .ref (u1.1 7), .ref (u1.1 8), .ref (u1.1 9), .int 0, .ref (u1.1 11), .ref (u1.1 12), .ref (u1.1 13)])), ((u1.1 8), .inl (cy 3, 3, .inr (.inr (.inr (.inr (fun k => some (u1.1 (120 + k)))))))), ((u1.1 9), .inl (cy 6, 3, .inr (.inr (.inr (.inr (fun k => some (u1.1 (130 + k)))))))), ((u1.1 120), .inr (6, [.int 0, .int 0, .ref (u1.1 61), .ref (u1.1 62), .int 0, .int 0, .ref (u1.1 63), .int 0, .ref (u1.1 64), .int 0, .int 0, .ref (u1.1 65), .int 0, .ref (u1.1 66), .int 0, .int 0, .int 0, .int 0, .int 0])), ((u1.1 61), .inl (cy 0, 96, .inl (fun _ => 0))), ((u1.1 62), .inl (cy 0, 96, .inl (fun _ => 0))), ((u1.1 63), .inl (cy 0, 56, .inl (fun _ => 0))), ((u1.1 64), .inl (cy 0, 112, .inl (fun _ => 0))), ((u1.1 65), .inl (cy 0, 4, .inl (fun _ => 0))), ((u1.1 66), .inl (cy 0, 40, .inl (fun _ => 0))), ((u1.1 5), .inr (6, [.int 0, .int 0, .ref (u1.1 21), .ref (u1.1 22), .int 0, .int 0, .ref (u1.1 23), .int 0, .ref (u1.1 24), .int 0, .int 0, .ref (u1.1 25), .int 0, .ref (u1.1 26), .int 0, .int 0, .int 0, .int 0, .int 0])), ((u1.1 21), .inl (cy 0, 96, .inl (fun _ => 0))), ((u1.1 22), .inl (cy 0, 96, .inl (fun _ => 0))), ((u1.1 23), .inl (cy 0, 56, .inl (fun _ => 0))), ((u1.1 24), .inl (cy 0, 112, .inl (fun _ => 0))), ((u1.1 25), .inl (cy 0, 4, .inl (fun _ => 0))), ((u1.1 26), .inl (cy 0, 40, .inl (fun _ => 0))), ((u1.1 130), .inr (4, [.int 0, .ref (u1.1 71), .int 0, .ref (u1.1 72), .ref (u1.1 73)])), ((u1.1 71), .inl (cy 0, 100, .inl (fun _ => 0))), ((u1.1 72), .inl (cy 0, 27, .inl (fun _ => 0))), ((u1.1 73), .inl (cy 0, 4, .inl shF)), ((u1.1 7), .inr (4, [.int 0, .ref (u1.1 41), .int 0, .ref (u1.1 42), .ref (u1.1 43)])), ((u1.1 41), .inl (cy 0, 100, .inl (fun _ => 0))), ((u1.1 42), .inl (cy 0, 27, .inl (fun _ => 0))), ((u1.1 43), .inl (cy 0, 4, .inl shF)), (q_2, .inr (12, [.int 0, .ref (u2.1 1), .int 0, .int 0, .int 0, .int 0, .int 0, .int 0, .int (-1), .ref (u2.1 9), .ref (u2.1 10), .ref (u2.1 11), .ref (u2.1 12), .ref (u2.1 13), .ref (u2.1 14), .ref (u2.1 15), .int 0, .int 0, .int 0, .ref (u2.1 19), .ref (u2.1 20), .ref (u2.1 21), .int 0, .ref (u2.1 23), .ref (u2.1 24), .ref (u2.1 25), .ref (u2.1 26), .ref (u2.1 27), .ref (u2.1 28), .int 0, .int 0, .int 0, .int 0, .ref (u2.1 33), .int (-1), .ref (u2.1 35), .int 0, .int 0])), ((u2.1 12), .inl (cy 0, 389, .inl sF)), ((u2.1 15), .inl (cy 0, 1167, .inl (fun _ => 0)))] := hD
  refine lv_astore_n (lv' := [(2, .ref q_2), (1, .ref q_1), (0, .ref b)]) hx hb dL_law__15 rfl hlv (by decide) rfl (fun ls hlv => ?_)
  refine lv_iconst (v := 1) hx hb dL_law__16 (by decide) ?_
  refine nw_a (atype := .long) (cy := cy) (a0 := (1, .inr (.inl (fun _ => 0)))) (N' := 1) hx hb ac2 (ty := .long) rfl 2 rfl (fun C h => nomatch h) hG.1 hP hD hS hA (fun cA => rfl) (by decide) (by decide) (Nat.le_of_ble_eq_true rfl) (Nat.le_of_ble_eq_true rfl) (Nat.le_of_ble_eq_true rfl) dL_law__17 (fun q_3 H hP hD hS => ?_)
  have hP : va_P D vwCl [(q_1, .inr (11, [.ref (u1.1 0), .ref (u1.1 1), .ref (u1.1 2), .int 0, .int 0, .ref (u1.1 5), .ref (u1.1 6), .ref (u1.1 7), .ref (u1.1 8), .ref (u1.1 9), .int 0, .ref (u1.1 11), .ref (u1.1 12), .ref (u1.1 13)])), ((u1.1 8), .inl (cy 3, 3, .inr (.inr (.inr (.inr (fun k => some (u1.1 (120 + k)))))))), ((u1.1 9), .inl (cy 6, 3, .inr (.inr (.inr (.inr (fun k => some (u1.1 (130 + k)))))))), ((u1.1 120), .inr (6, [.int 0, .int 0, .ref (u1.1 61), .ref (u1.1 62), .int 0, .int 0, .ref (u1.1 63), .int 0, .ref (u1.1 64), .int 0, .int 0, .ref (u1.1 65), .int 0, .ref (u1.1 66), .int 0, .int 0, .int 0, .int 0, .int 0])), ((u1.1 61), .inl (cy 0, 96, .inl (fun _ => 0))), ((u1.1 62), .inl (cy 0, 96, .inl (fun _ => 0))), ((u1.1 63), .inl (cy 0, 56, .inl (fun _ => 0))), ((u1.1 64), .inl (cy 0, 112, .inl (fun _ => 0))), ((u1.1 65), .inl (cy 0, 4, .inl (fun _ => 0))), ((u1.1 66), .inl (cy 0, 40, .inl (fun _ => 0))), ((u1.1 5), .inr (6, [.int 0, .int 0, .ref (u1.1 21), .ref (u1.1 22), .int 0, .int 0, .ref (u1.1 23), .int 0, .ref (u1.1 24), .int 0, .int 0, .ref (u1.1 25), .int 0, .ref (u1.1 26), .int 0, .int 0, .int 0, .int 0, .int 0])), ((u1.1 21), .inl (cy 0, 96, .inl (fun _ => 0))), ((u1.1 22), .inl (cy 0, 96, .inl (fun _ => 0))), ((u1.1 23), .inl (cy 0, 56, .inl (fun _ => 0))), ((u1.1 24), .inl (cy 0, 112, .inl (fun _ => 0))), ((u1.1 25), .inl (cy 0, 4, .inl (fun _ => 0))), ((u1.1 26), .inl (cy 0, 40, .inl (fun _ => 0))), ((u1.1 130), .inr (4, [.int 0, .ref (u1.1 71), .int 0, .ref (u1.1 72), .ref (u1.1 73)])), ((u1.1 71), .inl (cy 0, 100, .inl (fun _ => 0))), ((u1.1 72), .inl (cy 0, 27, .inl (fun _ => 0))), ((u1.1 73), .inl (cy 0, 4, .inl shF)), ((u1.1 7), .inr (4, [.int 0, .ref (u1.1 41), .int 0, .ref (u1.1 42), .ref (u1.1 43)])), ((u1.1 41), .inl (cy 0, 100, .inl (fun _ => 0))), ((u1.1 42), .inl (cy 0, 27, .inl (fun _ => 0))), ((u1.1 43), .inl (cy 0, 4, .inl shF)), (q_2, .inr (12, [.int 0, .ref (u2.1 1), .int 0, .int 0, .int 0, .int 0, .int 0, .int 0, .int (-1), .ref (u2.1 9), .ref (u2.1 10), .ref (u2.1 11), .ref (u2.1 12), .ref (u2.1 13), .ref (u2.1 14), .ref (u2.1 15), .int 0, .int 0, .int 0, .ref (u2.1 19), .ref (u2.1 20), .ref (u2.1 21), .int 0, .ref (u2.1 23), .ref (u2.1 24), .ref (u2.1 25), .ref (u2.1 26), .ref (u2.1 27), .ref (u2.1 28), .int 0, .int 0, .int 0, .int 0, .ref (u2.1 33), .int (-1), .ref (u2.1 35), .int 0, .int 0])), ((u2.1 12), .inl (cy 0, 389, .inl sF)), ((u2.1 15), .inl (cy 0, 1167, .inl (fun _ => 0))), (q_3, .inl (cy 2, 1, .inr (.inl (fun _ => 0))))] H := hP
  have hD : va_D A [(q_1, .inr (11, [.ref (u1.1 0), .ref (u1.1 1), .ref (u1.1 2), .int 0, .int 0, .ref (u1.1 5), .ref (u1.1 6), .ref (u1.1 7), .ref (u1.1 8), .ref (u1.1 9), .int 0, .ref (u1.1 11), .ref (u1.1 12), .ref (u1.1 13)])), ((u1.1 8), .inl (cy 3, 3, .inr (.inr (.inr (.inr (fun k => some (u1.1 (120 + k)))))))), ((u1.1 9), .inl (cy 6, 3, .inr (.inr (.inr (.inr (fun k => some (u1.1 (130 + k)))))))), ((u1.1 120), .inr (6, [.int 0, .int 0, .ref (u1.1 61), .ref (u1.1 62), .int 0, .int 0, .ref (u1.1 63), .int 0, .ref (u1.1 64), .int 0, .int 0, .ref (u1.1 65), .int 0, .ref (u1.1 66), .int 0, .int 0, .int 0, .int 0, .int 0])), ((u1.1 61), .inl (cy 0, 96, .inl (fun _ => 0))), ((u1.1 62), .inl (cy 0, 96, .inl (fun _ => 0))), ((u1.1 63), .inl (cy 0, 56, .inl (fun _ => 0))), ((u1.1 64), .inl (cy 0, 112, .inl (fun _ => 0))), ((u1.1 65), .inl (cy 0, 4, .inl (fun _ => 0))), ((u1.1 66), .inl (cy 0, 40, .inl (fun _ => 0))), ((u1.1 5), .inr (6, [.int 0, .int 0, .ref (u1.1 21), .ref (u1.1 22), .int 0, .int 0, .ref (u1.1 23), .int 0, .ref (u1.1 24), .int 0, .int 0, .ref (u1.1 25), .int 0, .ref (u1.1 26), .int 0, .int 0, .int 0, .int 0, .int 0])), ((u1.1 21), .inl (cy 0, 96, .inl (fun _ => 0))), ((u1.1 22), .inl (cy 0, 96, .inl (fun _ => 0))), ((u1.1 23), .inl (cy 0, 56, .inl (fun _ => 0))), ((u1.1 24), .inl (cy 0, 112, .inl (fun _ => 0))), ((u1.1 25), .inl (cy 0, 4, .inl (fun _ => 0))), ((u1.1 26), .inl (cy 0, 40, .inl (fun _ => 0))), ((u1.1 130), .inr (4, [.int 0, .ref (u1.1 71), .int 0, .ref (u1.1 72), .ref (u1.1 73)])), ((u1.1 71), .inl (cy 0, 100, .inl (fun _ => 0))), ((u1.1 72), .inl (cy 0, 27, .inl (fun _ => 0))), ((u1.1 73), .inl (cy 0, 4, .inl shF)), ((u1.1 7), .inr (4, [.int 0, .ref (u1.1 41), .int 0, .ref (u1.1 42), .ref (u1.1 43)])), ((u1.1 41), .inl (cy 0, 100, .inl (fun _ => 0))), ((u1.1 42), .inl (cy 0, 27, .inl (fun _ => 0))), ((u1.1 43), .inl (cy 0, 4, .inl shF)), (q_2, .inr (12, [.int 0, .ref (u2.1 1), .int 0, .int 0, .int 0, .int 0, .int 0, .int 0, .int (-1), .ref (u2.1 9), .ref (u2.1 10), .ref (u2.1 11), .ref (u2.1 12), .ref (u2.1 13), .ref (u2.1 14), .ref (u2.1 15), .int 0, .int 0, .int 0, .ref (u2.1 19), .ref (u2.1 20), .ref (u2.1 21), .int 0, .ref (u2.1 23), .ref (u2.1 24), .ref (u2.1 25), .ref (u2.1 26), .ref (u2.1 27), .ref (u2.1 28), .int 0, .int 0, .int 0, .int 0, .ref (u2.1 33), .int (-1), .ref (u2.1 35), .int 0, .int 0])), ((u2.1 12), .inl (cy 0, 389, .inl sF)), ((u2.1 15), .inl (cy 0, 1167, .inl (fun _ => 0))), (q_3, .inl (cy 2, 1, .inr (.inl (fun _ => 0))))] := hD
  refine lv_astore_n (lv' := [(3, .ref q_3), (2, .ref q_2), (1, .ref q_1), (0, .ref b)]) hx hb dL_law__19 rfl hlv (by decide) rfl (fun ls hlv => ?_)
  refine lv_iconst (v := 0) hx hb dL_law__20 (by decide) ?_
  refine lv_istore (lv' := [(4, .int 0), (3, .ref q_3), (2, .ref q_2), (1, .ref q_1), (0, .ref b)]) hx hb dL_law__21 hlv (by decide) rfl (fun ls hlv => ?_)
  refine lv_iload hx hb dL_law__23 (lv_at hlv 0 rfl) ?_
  refine lv_aload_n hx hb dL_law__25 rfl (lv_at hlv 4 rfl) ?_
  refine va_slen hx hb hX hbl hbA hS dL_law__26 ?_
  refine lt_i (y := 10) (by decide) ?_
  refine lv_bipush (v := 10) hx hb dL_law__27 (by decide) ?_
  refine lv_isub hx hb dL_law__29 ?_
  refine lt_i (y := 0) (by decide) ?_
  refine lv_icmp_gt (tgt := 2761) hx hb dL_law__30 (by decide) (fun c => absurd c (by decide)) (fun _ => ?_)
  refine lv_aload_n hx hb dL_law__33 rfl (lv_at hlv 4 rfl) ?_
  refine lv_iload hx hb dL_law__34 (lv_at hlv 0 rfl) ?_
  refine va_sld hx hb hX hbl hbA hS (vpd (by decide)) dL_law__36 ?_
  refine lt_i (y := xs 0) rfl ?_
  refine lv_bipush (v := 63) hx hb dL_law__37 (by decide) ?_
  refine lv_iand hx hb dL_law__39 ?_
  refine lt_i (y := 34) h63 ?_
  refine lv_tableIn (tgt := 2679) hx hb dL_law__40 (by decide) (by decide) rfl (by decide) ?_
  refine lv_aload_n hx hb dL_law__2679 rfl (lv_at hlv 3 rfl) ?_
  refine cj_i (wr := [(q_2, .inr (12, [.int 0, .ref (u2.1 1), .int 0, .int 0, .int 0, .int 0, .int 0, .int 0, .int (-1), .ref (u2.1 9), .ref (u2.1 10), .ref (u2.1 11), .ref (u2.1 12), .ref (u2.1 13), .ref (u2.1 14), .ref (u2.1 15), .int 0, .int 0, .int 0, .ref (u2.1 19), .ref (u2.1 20), .ref (u2.1 21), .int 0, .ref (u2.1 23), .ref (u2.1 24), .ref (u2.1 25), .ref (u2.1 26), .ref (u2.1 27), .ref (u2.1 28), .int 0, .int 0, .int 0, .int 0, .ref (u2.1 33), .int (-1), .ref (u2.1 35), .int 0, .int 0])), ((u2.1 12), .inl (cy 0, 389, .inl sF)), ((u2.1 15), .inl (cy 0, 1167, .inl (fun _ => 0))), (q_3, .inl (cy 2, 1, .inr (.inl (fun _ => 0))))]) (va_runV (As := []) (rest := []) ⟨hx, hb, hml, hown, hts⟩ (c_image l hl D cy sa q_1 u1.1 H.size) (cwV 0 hts gl_c_image rfl rfl rfl (by decide +kernel) ⟨Nat.le_of_ble_eq_true rfl, Nat.le_of_ble_eq_true rfl⟩) ⟨pcW.blind, (va_recv hG.1 hP (ci := 11) (q0 := 0) rfl rfl), (pcW.mk hP hD hS hA hG hT [0, 1, 2, 3, 4, 5, 6, 7, 8, 9, 10, 11, 12, 13, 14, 15, 16, 17, 18, 19, 20, 21, 22, 23, 24] rfl (by decide))⟩ rfl rfl hlv.1 rfl (lv_room (Nat.le_of_ble_eq_true rfl)) dL_law__2680 ⟨Nat.le_of_ble_eq_true rfl, Nat.le_of_ble_eq_true rfl⟩) hP hD hS hA [0, 1, 2, 3, 4, 5, 6, 7, 8, 9, 10, 11, 12, 13, 14, 15, 16, 17, 18, 19, 20, 21, 22, 23, 24] [25, 26, 27, 28] rfl rfl (by decide) (by decide) (fun r3 u3 H locs hw3 hP hD hS => ?_)
  obtain rfl := hw3
  have hP : va_P D vwCl [(q_2, .inr (12, [.int 0, .ref (u2.1 1), .int 0, .int 0, .int 0, .int 0, .int 0, .int 0, .int (-1), .ref (u2.1 9), .ref (u2.1 10), .ref (u2.1 11), .ref (u2.1 12), .ref (u2.1 13), .ref (u2.1 14), .ref (u2.1 15), .int 0, .int 0, .int 0, .ref (u2.1 19), .ref (u2.1 20), .ref (u2.1 21), .int 0, .ref (u2.1 23), .ref (u2.1 24), .ref (u2.1 25), .ref (u2.1 26), .ref (u2.1 27), .ref (u2.1 28), .int 0, .int 0, .int 0, .int 0, .ref (u2.1 33), .int (-1), .ref (u2.1 35), .int 0, .int 0])), ((u2.1 12), .inl (cy 0, 389, .inl sF)), ((u2.1 15), .inl (cy 0, 1167, .inl (fun _ => 0))), (q_3, .inl (cy 2, 1, .inr (.inl (fun _ => 0))))] H := hP
  have hD : va_D A [(q_2, .inr (12, [.int 0, .ref (u2.1 1), .int 0, .int 0, .int 0, .int 0, .int 0, .int 0, .int (-1), .ref (u2.1 9), .ref (u2.1 10), .ref (u2.1 11), .ref (u2.1 12), .ref (u2.1 13), .ref (u2.1 14), .ref (u2.1 15), .int 0, .int 0, .int 0, .ref (u2.1 19), .ref (u2.1 20), .ref (u2.1 21), .int 0, .ref (u2.1 23), .ref (u2.1 24), .ref (u2.1 25), .ref (u2.1 26), .ref (u2.1 27), .ref (u2.1 28), .int 0, .int 0, .int 0, .int 0, .ref (u2.1 33), .int (-1), .ref (u2.1 35), .int 0, .int 0])), ((u2.1 12), .inl (cy 0, 389, .inl sF)), ((u2.1 15), .inl (cy 0, 1167, .inl (fun _ => 0))), (q_3, .inl (cy 2, 1, .inr (.inl (fun _ => 0))))] := hD
  refine lv_aload_n hx hb dL_law__2683 rfl (lv_at hlv 2 rfl) ?_
  refine cj_i (wr := [(q_3, .inl (cy 2, 1, .inr (.inl (fun _ => 0))))]) (va_runV (As := []) (rest := [.int 1]) ⟨hx, hb, hml, hown, hts⟩ (m_image l hl D cy sa q_2 u2.1 (fun _ => 0) H.size) (cwV 0 hts gl_m_image rfl rfl rfl (by decide +kernel) ⟨Nat.le_of_ble_eq_true rfl, Nat.le_of_ble_eq_true rfl⟩) ⟨pcW.blind, (va_recv hG.1 hP (ci := 12) (q0 := 0) rfl rfl), (pcW.mk hP hD hS hA hG hT [0, 1, 2] rfl (by decide))⟩ rfl rfl hlv.1 rfl (lv_room (Nat.le_of_ble_eq_true rfl)) dL_law__2684 ⟨Nat.le_of_ble_eq_true rfl, Nat.le_of_ble_eq_true rfl⟩) hP hD hS hA [0, 1, 2] [3] rfl rfl (by decide) (by decide) (fun r4 u4 H locs hw4 hP hD hS => ?_)
  obtain rfl := hw4
  have hP : va_P D vwCl [(q_3, .inl (cy 2, 1, .inr (.inl (fun _ => 0))))] H := hP
  have hD : va_D A [(q_3, .inl (cy 2, 1, .inr (.inl (fun _ => 0))))] := hD
  refine lv_icmp_eq (tgt := 2755) hx hb dL_law__2687 (by decide) (fun _ => ?_) (fun c => absurd (by decide) c)
  refine lv_iinc (v := 10) (lv' := [(4, .int 10), (3, .ref q_3), (2, .ref q_2), (1, .ref q_1), (0, .ref b)]) hx hb dL_law__2755 hlv (k := 0) rfl (by decide) (by decide) rfl (fun ls hlv => ?_)
  refine lv_goto (tgt := 23) hx hb dL_law__2758 (by decide) ?_
  refine lv_iload hx hb dL_law__23 (lv_at hlv 0 rfl) ?_
  refine lv_aload_n hx hb dL_law__25 rfl (lv_at hlv 4 rfl) ?_
  refine va_slen hx hb hX hbl hbA hS dL_law__26 ?_
  refine lt_i (y := 10) (by decide) ?_
  refine lv_bipush (v := 10) hx hb dL_law__27 (by decide) ?_
  refine lv_isub hx hb dL_law__29 ?_
  refine lt_i (y := 0) (by decide) ?_
  refine lv_icmp_gt (tgt := 2761) hx hb dL_law__30 (by decide) (fun _ => ?_) (fun c => absurd (by decide) c)
  refine lv_iconst (v := 1) hx hb dL_law__2761 (by decide) ?_
  refine va_forget (fun q hq => by have h9 := hS.2.2 q hq; rw [hAe] at h9; exact h9) ?_
  refine W.widen (k := 600002) (n := 7302232) (Nat.le_of_ble_eq_true rfl) (Nat.le_of_ble_eq_true rfl) ?_
  exact lw_ret hx hb hr hlocks dL_law__2762
