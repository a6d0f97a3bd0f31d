theorem dL_law_2308 : decode cL_law 2308 = .ok (.iload 5, 2) := by decide +kernel
theorem dL_law_2310 : decode cL_law 2310 = .ok (.iconst 1, 1) := by decide +kernel
theorem dL_law_2311 : decode cL_law 2311 = .ok (.iadd, 1) := by decide +kernel
theorem dL_law_2312 : decode cL_law 2312 = .ok (.iaload, 1) := by decide +kernel
theorem dL_law_2313 : decode cL_law 2313 = .ok (.aload_n 3, 1) := by decide +kernel
theorem dL_law_2314 : decode cL_law 2314 = .ok (.invokestatic 312, 3) := by decide +kernel
theorem dL_law_2317 : decode cL_law 2317 = .ok (.istore 6, 2) := by decide +kernel
theorem dL_law_2319 : decode cL_law 2319 = .ok (.aload_n 2, 1) := by decide +kernel
theorem dL_law_2320 : decode cL_law 2320 = .ok (.aload_n 0, 1) := by decide +kernel
theorem dL_law_2321 : decode cL_law 2321 = .ok (.iload 5, 2) := by decide +kernel
theorem dL_law_2323 : decode cL_law 2323 = .ok (.iconst 1, 1) := by decide +kernel
theorem dL_law_2324 : decode cL_law 2324 = .ok (.iadd, 1) := by decide +kernel
theorem dL_law_2325 : decode cL_law 2325 = .ok (.iaload, 1) := by decide +kernel
theorem dL_law_2326 : decode cL_law 2326 = .ok (.invokevirtual 314, 3) := by decide +kernel
theorem dL_law_2329 : decode cL_law 2329 = .ok (.istore 7, 2) := by decide +kernel
theorem dL_law_2331 : decode cL_law 2331 = .ok (.aload_n 2, 1) := by decide +kernel
theorem dL_law_2332 : decode cL_law 2332 = .ok (.invokevirtual 178, 3) := by decide +kernel
theorem dL_law_2335 : decode cL_law 2335 = .ok (.iload 6, 2) := by decide +kernel
theorem dL_law_2337 : decode cL_law 2337 = .ok (.if_icmp .eq 5, 3) := by decide +kernel
theorem dL_law_2342 : decode cL_law 2342 = .ok (.iload 6, 2) := by decide +kernel
theorem dL_law_2344 : decode cL_law 2344 = .ok (.ifCond .ne 15, 3) := by decide +kernel
theorem dL_law_2347 : decode cL_law 2347 = .ok (.aload_n 3, 1) := by decide +kernel
theorem dL_law_2348 : decode cL_law 2348 = .ok (.iconst 0, 1) := by decide +kernel
theorem dL_law_2349 : decode cL_law 2349 = .ok (.laload, 1) := by decide +kernel
theorem dL_law_2350 : decode cL_law 2350 = .ok (.iload 7, 2) := by decide +kernel
theorem dL_law_2352 : decode cL_law 2352 = .ok (.i2l, 1) := by decide +kernel
theorem dL_law_2353 : decode cL_law 2353 = .ok (.lcmp, 1) := by decide +kernel
theorem dL_law_2354 : decode cL_law 2354 = .ok (.ifCond .eq 5, 3) := by decide +kernel
theorem dL_law_2359 : decode cL_law 2359 = .ok (.goto 731, 3) := by decide +kernel
theorem dL_law_2362 : decode cL_law 2362 = .ok (.aload_n 1, 1) := by decide +kernel
theorem dL_law_2363 : decode cL_law 2363 = .ok (.aload_n 0, 1) := by decide +kernel
theorem dL_law_2364 : decode cL_law 2364 = .ok (.iload 5, 2) := by decide +kernel
theorem dL_law_2366 : decode cL_law 2366 = .ok (.iconst 1, 1) := by decide +kernel
theorem dL_law_2367 : decode cL_law 2367 = .ok (.iadd, 1) := by decide +kernel
theorem dL_law_2368 : decode cL_law 2368 = .ok (.iaload, 1) := by decide +kernel
theorem dL_law_2369 : decode cL_law 2369 = .ok (.aload_n 3, 1) := by decide +kernel
theorem dL_law_2370 : decode cL_law 2370 = .ok (.invokestatic 315, 3) := by decide +kernel
theorem dL_law_2373 : decode cL_law 2373 = .ok (.istore 6, 2) := by decide +kernel
theorem dL_law_2375 : decode cL_law 2375 = .ok (.aload_n 2, 1) := by decide +kernel
theorem dL_law_2376 : decode cL_law 2376 = .ok (.aload_n 0, 1) := by decide +kernel
theorem dL_law_2377 : decode cL_law 2377 = .ok (.iload 5, 2) := by decide +kernel
theorem dL_law_2379 : decode cL_law 2379 = .ok (.iconst 1, 1) := by decide +kernel
theorem dL_law_2380 : decode cL_law 2380 = .ok (.iadd, 1) := by decide +kernel
theorem dL_law_2381 : decode cL_law 2381 = .ok (.iaload, 1) := by decide +kernel
theorem dL_law_2382 : decode cL_law 2382 = .ok (.invokevirtual 317, 3) := by decide +kernel
theorem dL_law_2385 : decode cL_law 2385 = .ok (.istore 7, 2) := by decide +kernel
theorem dL_law_2387 : decode cL_law 2387 = .ok (.aload_n 2, 1) := by decide +kernel
theorem dL_law_2388 : decode cL_law 2388 = .ok (.invokevirtual 178, 3) := by decide +kernel
theorem dL_law_2391 : decode cL_law 2391 = .ok (.iload 6, 2) := by decide +kernel
theorem dL_law_2393 : decode cL_law 2393 = .ok (.if_icmp .eq 5, 3) := by decide +kernel
theorem dL_law_2398 : decode cL_law 2398 = .ok (.iload 6, 2) := by decide +kernel
theorem dL_law_2400 : decode cL_law 2400 = .ok (.ifCond .ne 15, 3) := by decide +kernel
theorem dL_law_2403 : decode cL_law 2403 = .ok (.aload_n 3, 1) := by decide +kernel
theorem dL_law_2404 : decode cL_law 2404 = .ok (.iconst 0, 1) := by decide +kernel
theorem dL_law_2405 : decode cL_law 2405 = .ok (.laload, 1) := by decide +kernel
theorem dL_law_2406 : decode cL_law 2406 = .ok (.iload 7, 2) := by decide +kernel
theorem dL_law_2408 : decode cL_law 2408 = .ok (.i2l, 1) := by decide +kernel
theorem dL_law_2409 : decode cL_law 2409 = .ok (.lcmp, 1) := by decide +kernel
theorem dL_law_2410 : decode cL_law 2410 = .ok (.ifCond .eq 5, 3) := by decide +kernel
theorem dL_law_2415 : decode cL_law 2415 = .ok (.goto 675, 3) := by decide +kernel
theorem dL_law_2418 : decode cL_law 2418 = .ok (.aload_n 1, 1) := by decide +kernel
theorem dL_law_2419 : decode cL_law 2419 = .ok (.aload_n 0, 1) := by decide +kernel
theorem dL_law_2420 : decode cL_law 2420 = .ok (.iload 5, 2) := by decide +kernel
theorem dL_law_2422 : decode cL_law 2422 = .ok (.iconst 1, 1) := by decide +kernel
theorem dL_law_2423 : decode cL_law 2423 = .ok (.iadd, 1) := by decide +kernel
theorem dL_law_2424 : decode cL_law 2424 = .ok (.iaload, 1) := by decide +kernel
theorem dL_law_2425 : decode cL_law 2425 = .ok (.aload_n 3, 1) := by decide +kernel
theorem dL_law_2426 : decode cL_law 2426 = .ok (.invokestatic 318, 3) := by decide +kernel
theorem dL_law_2429 : decode cL_law 2429 = .ok (.istore 6, 2) := by decide +kernel
theorem dL_law_2431 : decode cL_law 2431 = .ok (.aload_n 2, 1) := by decide +kernel
theorem dL_law_2432 : decode cL_law 2432 = .ok (.aload_n 0, 1) := by decide +kernel
theorem dL_law_2433 : decode cL_law 2433 = .ok (.iload 5, 2) := by decide +kernel
theorem dL_law_2435 : decode cL_law 2435 = .ok (.iconst 1, 1) := by decide +kernel
theorem dL_law_2436 : decode cL_law 2436 = .ok (.iadd, 1) := by decide +kernel
theorem dL_law_2437 : decode cL_law 2437 = .ok (.iaload, 1) := by decide +kernel
theorem dL_law_2438 : decode cL_law 2438 = .ok (.invokevirtual 320, 3) := by decide +kernel
theorem dL_law_2441 : decode cL_law 2441 = .ok (.istore 7, 2) := by decide +kernel
theorem dL_law_2443 : decode cL_law 2443 = .ok (.aload_n 2, 1) := by decide +kernel
theorem dL_law_2444 : decode cL_law 2444 = .ok (.invokevirtual 178, 3) := by decide +kernel
theorem dL_law_2447 : decode cL_law 2447 = .ok (.iload 6, 2) := by decide +kernel
theorem dL_law_2449 : decode cL_law 2449 = .ok (.if_icmp .eq 5, 3) := by decide +kernel
theorem dL_law_2454 : decode cL_law 2454 = .ok (.iload 6, 2) := by decide +kernel
theorem dL_law_2456 : decode cL_law 2456 = .ok (.ifCond .ne 15, 3) := by decide +kernel
theorem dL_law_2459 : decode cL_law 2459 = .ok (.aload_n 3, 1) := by decide +kernel
theorem dL_law_2460 : decode cL_law 2460 = .ok (.iconst 0, 1) := by decide +kernel
theorem dL_law_2461 : decode cL_law 2461 = .ok (.laload, 1) := by decide +kernel
theorem dL_law_2462 : decode cL_law 2462 = .ok (.iload 7, 2) := by decide +kernel
theorem dL_law_2464 : decode cL_law 2464 = .ok (.i2l, 1) := by decide +kernel
theorem dL_law_2465 : decode cL_law 2465 = .ok (.lcmp, 1) := by decide +kernel
theorem dL_law_2466 : decode cL_law 2466 = .ok (.ifCond .eq 5, 3) := by decide +kernel
theorem dL_law_2471 : decode cL_law 2471 = .ok (.goto 619, 3) := by decide +kernel
theorem dL_law_2474 : decode cL_law 2474 = .ok (.aload_n 1, 1) := by decide +kernel
theorem dL_law_2475 : decode cL_law 2475 = .ok (.aload_n 0, 1) := by decide +kernel
theorem dL_law_2476 : decode cL_law 2476 = .ok (.iload 5, 2) := by decide +kernel
theorem dL_law_2478 : decode cL_law 2478 = .ok (.iconst 1, 1) := by decide +kernel
theorem dL_law_2479 : decode cL_law 2479 = .ok (.iadd, 1) := by decide +kernel
theorem dL_law_2480 : decode cL_law 2480 = .ok (.iaload, 1) := by decide +kernel
theorem dL_law_2481 : decode cL_law 2481 = .ok (.aload_n 3, 1) := by decide +kernel
theorem dL_law_2482 : decode cL_law 2482 = .ok (.invokestatic 321, 3) := by decide +kernel
theorem dL_law_2485 : decode cL_law 2485 = .ok (.istore 6, 2) := by decide +kernel
theorem dL_law_2487 : decode cL_law 2487 = .ok (.aload_n 2, 1) := by decide +kernel
theorem dL_law_2488 : decode cL_law 2488 = .ok (.aload_n 0, 1) := by decide +kernel
theorem dL_law_2489 : decode cL_law 2489 = .ok (.iload 5, 2) := by decide +kernel
theorem dL_law_2491 : decode cL_law 2491 = .ok (.iconst 1, 1) := by decide +kernel
theorem dL_law_2492 : decode cL_law 2492 = .ok (.iadd, 1) := by decide +kernel
theorem dL_law_2493 : decode cL_law 2493 = .ok (.iaload, 1) := by decide +kernel
theorem dL_law_2494 : decode cL_law 2494 = .ok (.invokevirtual 323, 3) := by decide +kernel
theorem dL_law_2497 : decode cL_law 2497 = .ok (.istore 7, 2) := by decide +kernel
theorem dL_law_2499 : decode cL_law 2499 = .ok (.aload_n 2, 1) := by decide +kernel
theorem dL_law_2500 : decode cL_law 2500 = .ok (.invokevirtual 178, 3) := by decide +kernel
theorem dL_law_2503 : decode cL_law 2503 = .ok (.iload 6, 2) := by decide +kernel
theorem dL_law_2505 : decode cL_law 2505 = .ok (.if_icmp .eq 5, 3) := by decide +kernel
theorem dL_law_2510 : decode cL_law 2510 = .ok (.iload 6, 2) := by decide +kernel
theorem dL_law_2512 : decode cL_law 2512 = .ok (.ifCond .ne 15, 3) := by decide +kernel
theorem dL_law_2515 : decode cL_law 2515 = .ok (.aload_n 3, 1) := by decide +kernel
theorem dL_law_2516 : decode cL_law 2516 = .ok (.iconst 0, 1) := by decide +kernel
theorem dL_law_2517 : decode cL_law 2517 = .ok (.laload, 1) := by decide +kernel
theorem dL_law_2518 : decode cL_law 2518 = .ok (.iload 7, 2) := by decide +kernel
theorem dL_law_2520 : decode cL_law 2520 = .ok (.i2l, 1) := by decide +kernel
theorem dL_law_2521 : decode cL_law 2521 = .ok (.lcmp, 1) := by decide +kernel
theorem dL_law_2522 : decode cL_law 2522 = .ok (.ifCond .eq 5, 3) := by decide +kernel
theorem dL_law_2527 : decode cL_law 2527 = .ok (.goto 563, 3) := by decide +kernel
theorem dL_law_2530 : decode cL_law 2530 = .ok (.aload_n 1, 1) := by decide +kernel
theorem dL_law_2531 : decode cL_law 2531 = .ok (.aload 4, 2) := by decide +kernel
theorem dL_law_2533 : decode cL_law 2533 = .ok (.invokestatic 324, 3) := by decide +kernel
theorem dL_law_2536 : decode cL_law 2536 = .ok (.istore 6, 2) := by decide +kernel
theorem dL_law_2538 : decode cL_law 2538 = .ok (.aload_n 2, 1) := by decide +kernel
theorem dL_law_2539 : decode cL_law 2539 = .ok (.invokevirtual 327, 3) := by decide +kernel
theorem dL_law_2542 : decode cL_law 2542 = .ok (.dstore 7, 2) := by decide +kernel
theorem dL_law_2544 : decode cL_law 2544 = .ok (.aload_n 2, 1) := by decide +kernel
theorem dL_law_2545 : decode cL_law 2545 = .ok (.invokevirtual 178, 3) := by decide +kernel
theorem dL_law_2548 : decode cL_law 2548 = .ok (.iload 6, 2) := by decide +kernel
theorem dL_law_2550 : decode cL_law 2550 = .ok (.if_icmp .eq 5, 3) := by decide +kernel
theorem dL_law_2555 : decode cL_law 2555 = .ok (.iload 6, 2) := by decide +kernel
theorem dL_law_2557 : decode cL_law 2557 = .ok (.ifCond .ne 35, 3) := by decide +kernel
theorem dL_law_2560 : decode cL_law 2560 = .ok (.aload 4, 2) := by decide +kernel
theorem dL_law_2562 : decode cL_law 2562 = .ok (.iconst 0, 1) := by decide +kernel
theorem dL_law_2563 : decode cL_law 2563 = .ok (.daload, 1) := by decide +kernel
theorem dL_law_2564 : decode cL_law 2564 = .ok (.dload 7, 2) := by decide +kernel
theorem dL_law_2566 : decode cL_law 2566 = .ok (.dcmp .l, 1) := by decide +kernel
theorem dL_law_2567 : decode cL_law 2567 = .ok (.ifCond .eq 25, 3) := by decide +kernel
theorem dL_law_2592 : decode cL_law 2592 = .ok (.goto 498, 3) := by decide +kernel
theorem dL_law_2595 : decode cL_law 2595 = .ok (.aload_n 1, 1) := by decide +kernel
theorem dL_law_2596 : decode cL_law 2596 = .ok (.aload 4, 2) := by decide +kernel
theorem dL_law_2598 : decode cL_law 2598 = .ok (.invokestatic 328, 3) := by decide +kernel
theorem dL_law_2601 : decode cL_law 2601 = .ok (.istore 6, 2) := by decide +kernel
theorem dL_law_2603 : decode cL_law 2603 = .ok (.aload_n 2, 1) := by decide +kernel
theorem dL_law_2604 : decode cL_law 2604 = .ok (.invokevirtual 330, 3) := by decide +kernel
theorem dL_law_2607 : decode cL_law 2607 = .ok (.fstore 7, 2) := by decide +kernel
theorem dL_law_2609 : decode cL_law 2609 = .ok (.aload_n 2, 1) := by decide +kernel
theorem dL_law_2610 : decode cL_law 2610 = .ok (.invokevirtual 178, 3) := by decide +kernel
theorem dL_law_2613 : decode cL_law 2613 = .ok (.iload 6, 2) := by decide +kernel
theorem dL_law_2615 : decode cL_law 2615 = .ok (.if_icmp .eq 5, 3) := by decide +kernel
theorem dL_law_2620 : decode cL_law 2620 = .ok (.iload 6, 2) := by decide +kernel
theorem dL_law_2622 : decode cL_law 2622 = .ok (.ifCond .ne 36, 3) := by decide +kernel
theorem dL_law_2625 : decode cL_law 2625 = .ok (.aload 4, 2) := by decide +kernel
theorem dL_law_2627 : decode cL_law 2627 = .ok (.iconst 0, 1) := by decide +kernel
theorem dL_law_2628 : decode cL_law 2628 = .ok (.daload, 1) := by decide +kernel
theorem dL_law_2629 : decode cL_law 2629 = .ok (.fload 7, 2) := by decide +kernel
theorem dL_law_2631 : decode cL_law 2631 = .ok (.f2d, 1) := by decide +kernel
theorem dL_law_2632 : decode cL_law 2632 = .ok (.dcmp .l, 1) := by decide +kernel
theorem dL_law_2633 : decode cL_law 2633 = .ok (.ifCond .eq 25, 3) := by decide +kernel
theorem dL_law_2658 : decode cL_law 2658 = .ok (.goto 432, 3) := by decide +kernel
theorem dL_law_2661 : decode cL_law 2661 = .ok (.aload_n 1, 1) := by decide +kernel
theorem dL_law_2662 : decode cL_law 2662 = .ok (.invokevirtual 331, 3) := by decide +kernel
theorem dL_law_2665 : decode cL_law 2665 = .ok (.aload_n 2, 1) := by decide +kernel
theorem dL_law_2666 : decode cL_law 2666 = .ok (.invokevirtual 335, 3) := by decide +kernel
theorem dL_law_2669 : decode cL_law 2669 = .ok (.if_icmp .eq 421, 3) := by decide +kernel
theorem dL_law_2674 : decode cL_law 2674 = .ok (.aload_n 1, 1) := by decide +kernel
theorem dL_law_2675 : decode cL_law 2675 = .ok (.aload_n 0, 1) := by decide +kernel
theorem dL_law_2676 : decode cL_law 2676 = .ok (.iload 5, 2) := by decide +kernel
theorem dL_law_2678 : decode cL_law 2678 = .ok (.iconst 1, 1) := by decide +kernel
theorem dL_law_2679 : decode cL_law 2679 = .ok (.iadd, 1) := by decide +kernel
theorem dL_law_2680 : decode cL_law 2680 = .ok (.iaload, 1) := by decide +kernel
theorem dL_law_2681 : decode cL_law 2681 = .ok (.aload_n 3, 1) := by decide +kernel
theorem dL_law_2682 : decode cL_law 2682 = .ok (.invokestatic 336, 3) := by decide +kernel
theorem dL_law_2685 : decode cL_law 2685 = .ok (.istore 6, 2) := by decide +kernel
theorem dL_law_2687 : decode cL_law 2687 = .ok (.aload_n 2, 1) := by decide +kernel
theorem dL_law_2688 : decode cL_law 2688 = .ok (.aload_n 0, 1) := by decide +kernel
theorem dL_law_2689 : decode cL_law 2689 = .ok (.iload 5, 2) := by decide +kernel
theorem dL_law_2691 : decode cL_law 2691 = .ok (.iconst 1, 1) := by decide +kernel
theorem dL_law_2692 : decode cL_law 2692 = .ok (.iadd, 1) := by decide +kernel
theorem dL_law_2693 : decode cL_law 2693 = .ok (.iaload, 1) := by decide +kernel
theorem dL_law_2694 : decode cL_law 2694 = .ok (.invokevirtual 338, 3) := by decide +kernel
theorem dL_law_2697 : decode cL_law 2697 = .ok (.istore 7, 2) := by decide +kernel
theorem dL_law_2699 : decode cL_law 2699 = .ok (.aload_n 2, 1) := by decide +kernel
theorem dL_law_2700 : decode cL_law 2700 = .ok (.invokevirtual 178, 3) := by decide +kernel
theorem dL_law_2703 : decode cL_law 2703 = .ok (.iload 6, 2) := by decide +kernel
theorem dL_law_2705 : decode cL_law 2705 = .ok (.if_icmp .eq 5, 3) := by decide +kernel
theorem dL_law_2710 : decode cL_law 2710 = .ok (.iload 6, 2) := by decide +kernel
theorem dL_law_2712 : decode cL_law 2712 = .ok (.ifCond .ne 15, 3) := by decide +kernel
