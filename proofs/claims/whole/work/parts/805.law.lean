theorem dL_law__2358 : decode cL_law_ 2358 = .ok (.aload_n 1, 1) := by decide +kernel
theorem dL_law__2359 : decode cL_law_ 2359 = .ok (.aload_n 0, 1) := by decide +kernel
theorem dL_law__2360 : decode cL_law_ 2360 = .ok (.iload 4, 2) := by decide +kernel
theorem dL_law__2362 : decode cL_law_ 2362 = .ok (.iconst 1, 1) := by decide +kernel
theorem dL_law__2363 : decode cL_law_ 2363 = .ok (.iadd, 1) := by decide +kernel
theorem dL_law__2364 : decode cL_law_ 2364 = .ok (.iaload, 1) := by decide +kernel
theorem dL_law__2365 : decode cL_law_ 2365 = .ok (.aload_n 3, 1) := by decide +kernel
theorem dL_law__2366 : decode cL_law_ 2366 = .ok (.invokestatic 211, 3) := by decide +kernel
theorem dL_law__2369 : decode cL_law_ 2369 = .ok (.istore 5, 2) := by decide +kernel
theorem dL_law__2371 : decode cL_law_ 2371 = .ok (.aload_n 2, 1) := by decide +kernel
theorem dL_law__2372 : decode cL_law_ 2372 = .ok (.aload_n 0, 1) := by decide +kernel
theorem dL_law__2373 : decode cL_law_ 2373 = .ok (.iload 4, 2) := by decide +kernel
theorem dL_law__2375 : decode cL_law_ 2375 = .ok (.iconst 1, 1) := by decide +kernel
theorem dL_law__2376 : decode cL_law_ 2376 = .ok (.iadd, 1) := by decide +kernel
theorem dL_law__2377 : decode cL_law_ 2377 = .ok (.iaload, 1) := by decide +kernel
theorem dL_law__2378 : decode cL_law_ 2378 = .ok (.invokevirtual 213, 3) := by decide +kernel
theorem dL_law__2381 : decode cL_law_ 2381 = .ok (.istore 6, 2) := by decide +kernel
theorem dL_law__2383 : decode cL_law_ 2383 = .ok (.aload_n 2, 1) := by decide +kernel
theorem dL_law__2384 : decode cL_law_ 2384 = .ok (.invokevirtual 124, 3) := by decide +kernel
theorem dL_law__2387 : decode cL_law_ 2387 = .ok (.iload 5, 2) := by decide +kernel
theorem dL_law__2389 : decode cL_law_ 2389 = .ok (.if_icmp .eq 5, 3) := by decide +kernel
theorem dL_law__2392 : decode cL_law_ 2392 = .ok (.iconst 0, 1) := by decide +kernel
theorem dL_law__2393 : decode cL_law_ 2393 = .ok (.ireturn, 1) := by decide +kernel
theorem dL_law__2394 : decode cL_law_ 2394 = .ok (.iload 5, 2) := by decide +kernel
theorem dL_law__2396 : decode cL_law_ 2396 = .ok (.ifCond .ne 15, 3) := by decide +kernel
theorem dL_law__2399 : decode cL_law_ 2399 = .ok (.aload_n 3, 1) := by decide +kernel
theorem dL_law__2400 : decode cL_law_ 2400 = .ok (.iconst 0, 1) := by decide +kernel
theorem dL_law__2401 : decode cL_law_ 2401 = .ok (.laload, 1) := by decide +kernel
theorem dL_law__2402 : decode cL_law_ 2402 = .ok (.iload 6, 2) := by decide +kernel
theorem dL_law__2404 : decode cL_law_ 2404 = .ok (.i2l, 1) := by decide +kernel
theorem dL_law__2405 : decode cL_law_ 2405 = .ok (.lcmp, 1) := by decide +kernel
theorem dL_law__2406 : decode cL_law_ 2406 = .ok (.ifCond .eq 5, 3) := by decide +kernel
theorem dL_law__2409 : decode cL_law_ 2409 = .ok (.iconst 0, 1) := by decide +kernel
theorem dL_law__2410 : decode cL_law_ 2410 = .ok (.ireturn, 1) := by decide +kernel
theorem dL_law__2411 : decode cL_law_ 2411 = .ok (.goto 228, 3) := by decide +kernel
theorem dL_law__2414 : decode cL_law_ 2414 = .ok (.aload_n 1, 1) := by decide +kernel
theorem dL_law__2415 : decode cL_law_ 2415 = .ok (.aload_n 0, 1) := by decide +kernel
theorem dL_law__2416 : decode cL_law_ 2416 = .ok (.iload 4, 2) := by decide +kernel
theorem dL_law__2418 : decode cL_law_ 2418 = .ok (.iconst 1, 1) := by decide +kernel
theorem dL_law__2419 : decode cL_law_ 2419 = .ok (.iadd, 1) := by decide +kernel
theorem dL_law__2420 : decode cL_law_ 2420 = .ok (.iaload, 1) := by decide +kernel
theorem dL_law__2421 : decode cL_law_ 2421 = .ok (.aload_n 3, 1) := by decide +kernel
theorem dL_law__2422 : decode cL_law_ 2422 = .ok (.invokestatic 214, 3) := by decide +kernel
theorem dL_law__2425 : decode cL_law_ 2425 = .ok (.istore 5, 2) := by decide +kernel
theorem dL_law__2427 : decode cL_law_ 2427 = .ok (.aload_n 2, 1) := by decide +kernel
theorem dL_law__2428 : decode cL_law_ 2428 = .ok (.aload_n 0, 1) := by decide +kernel
theorem dL_law__2429 : decode cL_law_ 2429 = .ok (.iload 4, 2) := by decide +kernel
theorem dL_law__2431 : decode cL_law_ 2431 = .ok (.iconst 1, 1) := by decide +kernel
theorem dL_law__2432 : decode cL_law_ 2432 = .ok (.iadd, 1) := by decide +kernel
theorem dL_law__2433 : decode cL_law_ 2433 = .ok (.iaload, 1) := by decide +kernel
theorem dL_law__2434 : decode cL_law_ 2434 = .ok (.invokevirtual 216, 3) := by decide +kernel
theorem dL_law__2437 : decode cL_law_ 2437 = .ok (.istore 6, 2) := by decide +kernel
theorem dL_law__2439 : decode cL_law_ 2439 = .ok (.aload_n 2, 1) := by decide +kernel
theorem dL_law__2440 : decode cL_law_ 2440 = .ok (.invokevirtual 124, 3) := by decide +kernel
theorem dL_law__2443 : decode cL_law_ 2443 = .ok (.iload 5, 2) := by decide +kernel
theorem dL_law__2445 : decode cL_law_ 2445 = .ok (.if_icmp .eq 5, 3) := by decide +kernel
theorem dL_law__2448 : decode cL_law_ 2448 = .ok (.iconst 0, 1) := by decide +kernel
theorem dL_law__2449 : decode cL_law_ 2449 = .ok (.ireturn, 1) := by decide +kernel
theorem dL_law__2450 : decode cL_law_ 2450 = .ok (.iload 5, 2) := by decide +kernel
theorem dL_law__2452 : decode cL_law_ 2452 = .ok (.ifCond .ne 15, 3) := by decide +kernel
theorem dL_law__2455 : decode cL_law_ 2455 = .ok (.aload_n 3, 1) := by decide +kernel
theorem dL_law__2456 : decode cL_law_ 2456 = .ok (.iconst 0, 1) := by decide +kernel
theorem dL_law__2457 : decode cL_law_ 2457 = .ok (.laload, 1) := by decide +kernel
theorem dL_law__2458 : decode cL_law_ 2458 = .ok (.iload 6, 2) := by decide +kernel
theorem dL_law__2460 : decode cL_law_ 2460 = .ok (.i2l, 1) := by decide +kernel
theorem dL_law__2461 : decode cL_law_ 2461 = .ok (.lcmp, 1) := by decide +kernel
theorem dL_law__2462 : decode cL_law_ 2462 = .ok (.ifCond .eq 5, 3) := by decide +kernel
theorem dL_law__2465 : decode cL_law_ 2465 = .ok (.iconst 0, 1) := by decide +kernel
theorem dL_law__2466 : decode cL_law_ 2466 = .ok (.ireturn, 1) := by decide +kernel
theorem dL_law__2467 : decode cL_law_ 2467 = .ok (.goto 172, 3) := by decide +kernel
theorem dL_law__2470 : decode cL_law_ 2470 = .ok (.aload_n 1, 1) := by decide +kernel
theorem dL_law__2471 : decode cL_law_ 2471 = .ok (.aload_n 0, 1) := by decide +kernel
theorem dL_law__2472 : decode cL_law_ 2472 = .ok (.iload 4, 2) := by decide +kernel
theorem dL_law__2474 : decode cL_law_ 2474 = .ok (.iconst 1, 1) := by decide +kernel
theorem dL_law__2475 : decode cL_law_ 2475 = .ok (.iadd, 1) := by decide +kernel
theorem dL_law__2476 : decode cL_law_ 2476 = .ok (.iaload, 1) := by decide +kernel
theorem dL_law__2477 : decode cL_law_ 2477 = .ok (.aload_n 0, 1) := by decide +kernel
theorem dL_law__2478 : decode cL_law_ 2478 = .ok (.iload 4, 2) := by decide +kernel
theorem dL_law__2480 : decode cL_law_ 2480 = .ok (.iconst 2, 1) := by decide +kernel
theorem dL_law__2481 : decode cL_law_ 2481 = .ok (.iadd, 1) := by decide +kernel
theorem dL_law__2482 : decode cL_law_ 2482 = .ok (.iaload, 1) := by decide +kernel
theorem dL_law__2483 : decode cL_law_ 2483 = .ok (.aload_n 0, 1) := by decide +kernel
theorem dL_law__2484 : decode cL_law_ 2484 = .ok (.iload 4, 2) := by decide +kernel
theorem dL_law__2486 : decode cL_law_ 2486 = .ok (.iconst 3, 1) := by decide +kernel
theorem dL_law__2487 : decode cL_law_ 2487 = .ok (.iadd, 1) := by decide +kernel
theorem dL_law__2488 : decode cL_law_ 2488 = .ok (.iaload, 1) := by decide +kernel
theorem dL_law__2489 : decode cL_law_ 2489 = .ok (.aload_n 0, 1) := by decide +kernel
theorem dL_law__2490 : decode cL_law_ 2490 = .ok (.iload 4, 2) := by decide +kernel
theorem dL_law__2492 : decode cL_law_ 2492 = .ok (.iconst 4, 1) := by decide +kernel
theorem dL_law__2493 : decode cL_law_ 2493 = .ok (.iadd, 1) := by decide +kernel
theorem dL_law__2494 : decode cL_law_ 2494 = .ok (.iaload, 1) := by decide +kernel
theorem dL_law__2495 : decode cL_law_ 2495 = .ok (.aload_n 0, 1) := by decide +kernel
theorem dL_law__2496 : decode cL_law_ 2496 = .ok (.iload 4, 2) := by decide +kernel
theorem dL_law__2498 : decode cL_law_ 2498 = .ok (.iconst 5, 1) := by decide +kernel
theorem dL_law__2499 : decode cL_law_ 2499 = .ok (.iadd, 1) := by decide +kernel
theorem dL_law__2500 : decode cL_law_ 2500 = .ok (.iaload, 1) := by decide +kernel
theorem dL_law__2501 : decode cL_law_ 2501 = .ok (.aload_n 0, 1) := by decide +kernel
theorem dL_law__2502 : decode cL_law_ 2502 = .ok (.iload 4, 2) := by decide +kernel
theorem dL_law__2504 : decode cL_law_ 2504 = .ok (.bipush 6, 2) := by decide +kernel
theorem dL_law__2506 : decode cL_law_ 2506 = .ok (.iadd, 1) := by decide +kernel
theorem dL_law__2507 : decode cL_law_ 2507 = .ok (.iaload, 1) := by decide +kernel
theorem dL_law__2508 : decode cL_law_ 2508 = .ok (.aload_n 3, 1) := by decide +kernel
theorem dL_law__2509 : decode cL_law_ 2509 = .ok (.invokestatic 217, 3) := by decide +kernel
theorem dL_law__2512 : decode cL_law_ 2512 = .ok (.istore 5, 2) := by decide +kernel
theorem dL_law__2514 : decode cL_law_ 2514 = .ok (.aload_n 2, 1) := by decide +kernel
theorem dL_law__2515 : decode cL_law_ 2515 = .ok (.aload_n 0, 1) := by decide +kernel
theorem dL_law__2516 : decode cL_law_ 2516 = .ok (.iload 4, 2) := by decide +kernel
theorem dL_law__2518 : decode cL_law_ 2518 = .ok (.iconst 1, 1) := by decide +kernel
theorem dL_law__2519 : decode cL_law_ 2519 = .ok (.iadd, 1) := by decide +kernel
theorem dL_law__2520 : decode cL_law_ 2520 = .ok (.iaload, 1) := by decide +kernel
theorem dL_law__2521 : decode cL_law_ 2521 = .ok (.aload_n 0, 1) := by decide +kernel
theorem dL_law__2522 : decode cL_law_ 2522 = .ok (.iload 4, 2) := by decide +kernel
theorem dL_law__2524 : decode cL_law_ 2524 = .ok (.iconst 2, 1) := by decide +kernel
theorem dL_law__2525 : decode cL_law_ 2525 = .ok (.iadd, 1) := by decide +kernel
theorem dL_law__2526 : decode cL_law_ 2526 = .ok (.iaload, 1) := by decide +kernel
theorem dL_law__2527 : decode cL_law_ 2527 = .ok (.aload_n 0, 1) := by decide +kernel
theorem dL_law__2528 : decode cL_law_ 2528 = .ok (.iload 4, 2) := by decide +kernel
theorem dL_law__2530 : decode cL_law_ 2530 = .ok (.iconst 3, 1) := by decide +kernel
theorem dL_law__2531 : decode cL_law_ 2531 = .ok (.iadd, 1) := by decide +kernel
theorem dL_law__2532 : decode cL_law_ 2532 = .ok (.iaload, 1) := by decide +kernel
theorem dL_law__2533 : decode cL_law_ 2533 = .ok (.aload_n 0, 1) := by decide +kernel
theorem dL_law__2534 : decode cL_law_ 2534 = .ok (.iload 4, 2) := by decide +kernel
theorem dL_law__2536 : decode cL_law_ 2536 = .ok (.iconst 4, 1) := by decide +kernel
theorem dL_law__2537 : decode cL_law_ 2537 = .ok (.iadd, 1) := by decide +kernel
theorem dL_law__2538 : decode cL_law_ 2538 = .ok (.iaload, 1) := by decide +kernel
theorem dL_law__2539 : decode cL_law_ 2539 = .ok (.aload_n 0, 1) := by decide +kernel
theorem dL_law__2540 : decode cL_law_ 2540 = .ok (.iload 4, 2) := by decide +kernel
theorem dL_law__2542 : decode cL_law_ 2542 = .ok (.iconst 5, 1) := by decide +kernel
theorem dL_law__2543 : decode cL_law_ 2543 = .ok (.iadd, 1) := by decide +kernel
theorem dL_law__2544 : decode cL_law_ 2544 = .ok (.iaload, 1) := by decide +kernel
theorem dL_law__2545 : decode cL_law_ 2545 = .ok (.aload_n 0, 1) := by decide +kernel
theorem dL_law__2546 : decode cL_law_ 2546 = .ok (.iload 4, 2) := by decide +kernel
theorem dL_law__2548 : decode cL_law_ 2548 = .ok (.bipush 6, 2) := by decide +kernel
theorem dL_law__2550 : decode cL_law_ 2550 = .ok (.iadd, 1) := by decide +kernel
theorem dL_law__2551 : decode cL_law_ 2551 = .ok (.iaload, 1) := by decide +kernel
theorem dL_law__2552 : decode cL_law_ 2552 = .ok (.invokevirtual 219, 3) := by decide +kernel
theorem dL_law__2555 : decode cL_law_ 2555 = .ok (.istore 6, 2) := by decide +kernel
theorem dL_law__2557 : decode cL_law_ 2557 = .ok (.aload_n 2, 1) := by decide +kernel
theorem dL_law__2558 : decode cL_law_ 2558 = .ok (.invokevirtual 124, 3) := by decide +kernel
theorem dL_law__2561 : decode cL_law_ 2561 = .ok (.iload 5, 2) := by decide +kernel
theorem dL_law__2563 : decode cL_law_ 2563 = .ok (.if_icmp .eq 5, 3) := by decide +kernel
theorem dL_law__2566 : decode cL_law_ 2566 = .ok (.iconst 0, 1) := by decide +kernel
theorem dL_law__2567 : decode cL_law_ 2567 = .ok (.ireturn, 1) := by decide +kernel
theorem dL_law__2568 : decode cL_law_ 2568 = .ok (.iload 5, 2) := by decide +kernel
theorem dL_law__2570 : decode cL_law_ 2570 = .ok (.ifCond .ne 15, 3) := by decide +kernel
theorem dL_law__2573 : decode cL_law_ 2573 = .ok (.aload_n 3, 1) := by decide +kernel
theorem dL_law__2574 : decode cL_law_ 2574 = .ok (.iconst 0, 1) := by decide +kernel
theorem dL_law__2575 : decode cL_law_ 2575 = .ok (.laload, 1) := by decide +kernel
theorem dL_law__2576 : decode cL_law_ 2576 = .ok (.iload 6, 2) := by decide +kernel
theorem dL_law__2578 : decode cL_law_ 2578 = .ok (.i2l, 1) := by decide +kernel
theorem dL_law__2579 : decode cL_law_ 2579 = .ok (.lcmp, 1) := by decide +kernel
theorem dL_law__2580 : decode cL_law_ 2580 = .ok (.ifCond .eq 5, 3) := by decide +kernel
theorem dL_law__2583 : decode cL_law_ 2583 = .ok (.iconst 0, 1) := by decide +kernel
theorem dL_law__2584 : decode cL_law_ 2584 = .ok (.ireturn, 1) := by decide +kernel
theorem dL_law__2585 : decode cL_law_ 2585 = .ok (.goto 54, 3) := by decide +kernel
theorem dL_law__2588 : decode cL_law_ 2588 = .ok (.aload_n 1, 1) := by decide +kernel
theorem dL_law__2589 : decode cL_law_ 2589 = .ok (.invokevirtual 220, 3) := by decide +kernel
theorem dL_law__2592 : decode cL_law_ 2592 = .ok (.aload_n 2, 1) := by decide +kernel
theorem dL_law__2593 : decode cL_law_ 2593 = .ok (.invokevirtual 223, 3) := by decide +kernel
theorem dL_law__2596 : decode cL_law_ 2596 = .ok (.if_icmp .eq 43, 3) := by decide +kernel
theorem dL_law__2599 : decode cL_law_ 2599 = .ok (.iconst 0, 1) := by decide +kernel
theorem dL_law__2600 : decode cL_law_ 2600 = .ok (.ireturn, 1) := by decide +kernel
theorem dL_law__2601 : decode cL_law_ 2601 = .ok (.aload_n 1, 1) := by decide +kernel
theorem dL_law__2602 : decode cL_law_ 2602 = .ok (.invokevirtual 224, 3) := by decide +kernel
theorem dL_law__2605 : decode cL_law_ 2605 = .ok (.aload_n 2, 1) := by decide +kernel
theorem dL_law__2606 : decode cL_law_ 2606 = .ok (.invokevirtual 227, 3) := by decide +kernel
theorem dL_law__2609 : decode cL_law_ 2609 = .ok (.if_icmp .eq 30, 3) := by decide +kernel
theorem dL_law__2612 : decode cL_law_ 2612 = .ok (.iconst 0, 1) := by decide +kernel
theorem dL_law__2613 : decode cL_law_ 2613 = .ok (.ireturn, 1) := by decide +kernel
theorem dL_law__2614 : decode cL_law_ 2614 = .ok (.aload_n 1, 1) := by decide +kernel
theorem dL_law__2615 : decode cL_law_ 2615 = .ok (.aload_n 0, 1) := by decide +kernel
theorem dL_law__2616 : decode cL_law_ 2616 = .ok (.iload 4, 2) := by decide +kernel
theorem dL_law__2618 : decode cL_law_ 2618 = .ok (.iconst 1, 1) := by decide +kernel
theorem dL_law__2619 : decode cL_law_ 2619 = .ok (.iadd, 1) := by decide +kernel
theorem dL_law__2620 : decode cL_law_ 2620 = .ok (.iaload, 1) := by decide +kernel
theorem dL_law__2621 : decode cL_law_ 2621 = .ok (.invokevirtual 228, 3) := by decide +kernel
theorem dL_law__2624 : decode cL_law_ 2624 = .ok (.aload_n 2, 1) := by decide +kernel
theorem dL_law__2625 : decode cL_law_ 2625 = .ok (.aload_n 0, 1) := by decide +kernel
theorem dL_law__2626 : decode cL_law_ 2626 = .ok (.iload 4, 2) := by decide +kernel
theorem dL_law__2628 : decode cL_law_ 2628 = .ok (.iconst 1, 1) := by decide +kernel
theorem dL_law__2629 : decode cL_law_ 2629 = .ok (.iadd, 1) := by decide +kernel
theorem dL_law__2630 : decode cL_law_ 2630 = .ok (.iaload, 1) := by decide +kernel
theorem dL_law__2631 : decode cL_law_ 2631 = .ok (.invokevirtual 231, 3) := by decide +kernel
theorem dL_law__2634 : decode cL_law_ 2634 = .ok (.if_icmp .eq 5, 3) := by decide +kernel
theorem dL_law__2637 : decode cL_law_ 2637 = .ok (.iconst 0, 1) := by decide +kernel
theorem dL_law__2638 : decode cL_law_ 2638 = .ok (.ireturn, 1) := by decide +kernel
theorem dL_law__2639 : decode cL_law_ 2639 = .ok (.iinc 4 7, 3) := by decide +kernel
theorem dL_law__2642 : decode cL_law_ 2642 = .ok (.goto (-2619), 3) := by decide +kernel
theorem dL_law__2645 : decode cL_law_ 2645 = .ok (.iconst 1, 1) := by decide +kernel
theorem dL_law__2646 : decode cL_law_ 2646 = .ok (.ireturn, 1) := by decide +kernel
