theorem dL_law_2351 : decode cL_law 2351 = .ok (.if_icmp .eq 5, 3) := by decide +kernel
theorem dL_law_2354 : decode cL_law 2354 = .ok (.iconst 0, 1) := by decide +kernel
theorem dL_law_2355 : decode cL_law 2355 = .ok (.ireturn, 1) := by decide +kernel
theorem dL_law_2356 : decode cL_law 2356 = .ok (.iload 5, 2) := by decide +kernel
theorem dL_law_2358 : decode cL_law 2358 = .ok (.ifCond .ne 15, 3) := by decide +kernel
theorem dL_law_2361 : decode cL_law 2361 = .ok (.aload_n 3, 1) := by decide +kernel
theorem dL_law_2362 : decode cL_law 2362 = .ok (.iconst 0, 1) := by decide +kernel
theorem dL_law_2363 : decode cL_law 2363 = .ok (.laload, 1) := by decide +kernel
theorem dL_law_2364 : decode cL_law 2364 = .ok (.iload 6, 2) := by decide +kernel
theorem dL_law_2366 : decode cL_law 2366 = .ok (.i2l, 1) := by decide +kernel
theorem dL_law_2367 : decode cL_law 2367 = .ok (.lcmp, 1) := by decide +kernel
theorem dL_law_2368 : decode cL_law 2368 = .ok (.ifCond .eq 5, 3) := by decide +kernel
theorem dL_law_2371 : decode cL_law 2371 = .ok (.iconst 0, 1) := by decide +kernel
theorem dL_law_2372 : decode cL_law 2372 = .ok (.ireturn, 1) := by decide +kernel
theorem dL_law_2373 : decode cL_law 2373 = .ok (.goto 668, 3) := by decide +kernel
theorem dL_law_2376 : decode cL_law 2376 = .ok (.aload_n 1, 1) := by decide +kernel
theorem dL_law_2377 : decode cL_law 2377 = .ok (.aload_n 0, 1) := by decide +kernel
theorem dL_law_2378 : decode cL_law 2378 = .ok (.iload 4, 2) := by decide +kernel
theorem dL_law_2380 : decode cL_law 2380 = .ok (.iconst 1, 1) := by decide +kernel
theorem dL_law_2381 : decode cL_law 2381 = .ok (.iadd, 1) := by decide +kernel
theorem dL_law_2382 : decode cL_law 2382 = .ok (.iaload, 1) := by decide +kernel
theorem dL_law_2383 : decode cL_law 2383 = .ok (.aload_n 3, 1) := by decide +kernel
theorem dL_law_2384 : decode cL_law 2384 = .ok (.invokestatic 248, 3) := by decide +kernel
theorem dL_law_2387 : decode cL_law 2387 = .ok (.istore 5, 2) := by decide +kernel
theorem dL_law_2389 : decode cL_law 2389 = .ok (.aload_n 2, 1) := by decide +kernel
theorem dL_law_2390 : decode cL_law 2390 = .ok (.aload_n 0, 1) := by decide +kernel
theorem dL_law_2391 : decode cL_law 2391 = .ok (.iload 4, 2) := by decide +kernel
theorem dL_law_2393 : decode cL_law 2393 = .ok (.iconst 1, 1) := by decide +kernel
theorem dL_law_2394 : decode cL_law 2394 = .ok (.iadd, 1) := by decide +kernel
theorem dL_law_2395 : decode cL_law 2395 = .ok (.iaload, 1) := by decide +kernel
theorem dL_law_2396 : decode cL_law 2396 = .ok (.invokevirtual 250, 3) := by decide +kernel
theorem dL_law_2399 : decode cL_law 2399 = .ok (.istore 6, 2) := by decide +kernel
theorem dL_law_2401 : decode cL_law 2401 = .ok (.aload_n 2, 1) := by decide +kernel
theorem dL_law_2402 : decode cL_law 2402 = .ok (.invokevirtual 150, 3) := by decide +kernel
theorem dL_law_2405 : decode cL_law 2405 = .ok (.iload 5, 2) := by decide +kernel
theorem dL_law_2407 : decode cL_law 2407 = .ok (.if_icmp .eq 5, 3) := by decide +kernel
theorem dL_law_2410 : decode cL_law 2410 = .ok (.iconst 0, 1) := by decide +kernel
theorem dL_law_2411 : decode cL_law 2411 = .ok (.ireturn, 1) := by decide +kernel
theorem dL_law_2412 : decode cL_law 2412 = .ok (.iload 5, 2) := by decide +kernel
theorem dL_law_2414 : decode cL_law 2414 = .ok (.ifCond .ne 15, 3) := by decide +kernel
theorem dL_law_2417 : decode cL_law 2417 = .ok (.aload_n 3, 1) := by decide +kernel
theorem dL_law_2418 : decode cL_law 2418 = .ok (.iconst 0, 1) := by decide +kernel
theorem dL_law_2419 : decode cL_law 2419 = .ok (.laload, 1) := by decide +kernel
theorem dL_law_2420 : decode cL_law 2420 = .ok (.iload 6, 2) := by decide +kernel
theorem dL_law_2422 : decode cL_law 2422 = .ok (.i2l, 1) := by decide +kernel
theorem dL_law_2423 : decode cL_law 2423 = .ok (.lcmp, 1) := by decide +kernel
theorem dL_law_2424 : decode cL_law 2424 = .ok (.ifCond .eq 5, 3) := by decide +kernel
theorem dL_law_2427 : decode cL_law 2427 = .ok (.iconst 0, 1) := by decide +kernel
theorem dL_law_2428 : decode cL_law 2428 = .ok (.ireturn, 1) := by decide +kernel
theorem dL_law_2429 : decode cL_law 2429 = .ok (.goto 612, 3) := by decide +kernel
theorem dL_law_2432 : decode cL_law 2432 = .ok (.aload_n 1, 1) := by decide +kernel
theorem dL_law_2433 : decode cL_law 2433 = .ok (.aload_n 0, 1) := by decide +kernel
theorem dL_law_2434 : decode cL_law 2434 = .ok (.iload 4, 2) := by decide +kernel
theorem dL_law_2436 : decode cL_law 2436 = .ok (.iconst 1, 1) := by decide +kernel
theorem dL_law_2437 : decode cL_law 2437 = .ok (.iadd, 1) := by decide +kernel
theorem dL_law_2438 : decode cL_law 2438 = .ok (.iaload, 1) := by decide +kernel
theorem dL_law_2439 : decode cL_law 2439 = .ok (.aload_n 3, 1) := by decide +kernel
theorem dL_law_2440 : decode cL_law 2440 = .ok (.invokestatic 251, 3) := by decide +kernel
theorem dL_law_2443 : decode cL_law 2443 = .ok (.istore 5, 2) := by decide +kernel
theorem dL_law_2445 : decode cL_law 2445 = .ok (.aload_n 2, 1) := by decide +kernel
theorem dL_law_2446 : decode cL_law 2446 = .ok (.aload_n 0, 1) := by decide +kernel
theorem dL_law_2447 : decode cL_law 2447 = .ok (.iload 4, 2) := by decide +kernel
theorem dL_law_2449 : decode cL_law 2449 = .ok (.iconst 1, 1) := by decide +kernel
theorem dL_law_2450 : decode cL_law 2450 = .ok (.iadd, 1) := by decide +kernel
theorem dL_law_2451 : decode cL_law 2451 = .ok (.iaload, 1) := by decide +kernel
theorem dL_law_2452 : decode cL_law 2452 = .ok (.invokevirtual 253, 3) := by decide +kernel
theorem dL_law_2455 : decode cL_law 2455 = .ok (.istore 6, 2) := by decide +kernel
theorem dL_law_2457 : decode cL_law 2457 = .ok (.aload_n 2, 1) := by decide +kernel
theorem dL_law_2458 : decode cL_law 2458 = .ok (.invokevirtual 150, 3) := by decide +kernel
theorem dL_law_2461 : decode cL_law 2461 = .ok (.iload 5, 2) := by decide +kernel
theorem dL_law_2463 : decode cL_law 2463 = .ok (.if_icmp .eq 5, 3) := by decide +kernel
theorem dL_law_2466 : decode cL_law 2466 = .ok (.iconst 0, 1) := by decide +kernel
theorem dL_law_2467 : decode cL_law 2467 = .ok (.ireturn, 1) := by decide +kernel
theorem dL_law_2468 : decode cL_law 2468 = .ok (.iload 5, 2) := by decide +kernel
theorem dL_law_2470 : decode cL_law 2470 = .ok (.ifCond .ne 15, 3) := by decide +kernel
theorem dL_law_2473 : decode cL_law 2473 = .ok (.aload_n 3, 1) := by decide +kernel
theorem dL_law_2474 : decode cL_law 2474 = .ok (.iconst 0, 1) := by decide +kernel
theorem dL_law_2475 : decode cL_law 2475 = .ok (.laload, 1) := by decide +kernel
theorem dL_law_2476 : decode cL_law 2476 = .ok (.iload 6, 2) := by decide +kernel
theorem dL_law_2478 : decode cL_law 2478 = .ok (.i2l, 1) := by decide +kernel
theorem dL_law_2479 : decode cL_law 2479 = .ok (.lcmp, 1) := by decide +kernel
theorem dL_law_2480 : decode cL_law 2480 = .ok (.ifCond .eq 5, 3) := by decide +kernel
theorem dL_law_2483 : decode cL_law 2483 = .ok (.iconst 0, 1) := by decide +kernel
theorem dL_law_2484 : decode cL_law 2484 = .ok (.ireturn, 1) := by decide +kernel
theorem dL_law_2485 : decode cL_law 2485 = .ok (.goto 556, 3) := by decide +kernel
theorem dL_law_2488 : decode cL_law 2488 = .ok (.aload_n 1, 1) := by decide +kernel
theorem dL_law_2489 : decode cL_law 2489 = .ok (.invokevirtual 254, 3) := by decide +kernel
theorem dL_law_2492 : decode cL_law 2492 = .ok (.aload_n 2, 1) := by decide +kernel
theorem dL_law_2493 : decode cL_law 2493 = .ok (.invokevirtual 257, 3) := by decide +kernel
theorem dL_law_2496 : decode cL_law 2496 = .ok (.if_icmp .eq 545, 3) := by decide +kernel
theorem dL_law_2499 : decode cL_law 2499 = .ok (.iconst 0, 1) := by decide +kernel
theorem dL_law_2500 : decode cL_law 2500 = .ok (.ireturn, 1) := by decide +kernel
theorem dL_law_2501 : decode cL_law 2501 = .ok (.aload_n 1, 1) := by decide +kernel
theorem dL_law_2502 : decode cL_law 2502 = .ok (.aload_n 0, 1) := by decide +kernel
theorem dL_law_2503 : decode cL_law 2503 = .ok (.iload 4, 2) := by decide +kernel
theorem dL_law_2505 : decode cL_law 2505 = .ok (.iconst 1, 1) := by decide +kernel
theorem dL_law_2506 : decode cL_law 2506 = .ok (.iadd, 1) := by decide +kernel
theorem dL_law_2507 : decode cL_law 2507 = .ok (.iaload, 1) := by decide +kernel
theorem dL_law_2508 : decode cL_law 2508 = .ok (.aload_n 3, 1) := by decide +kernel
theorem dL_law_2509 : decode cL_law 2509 = .ok (.invokestatic 258, 3) := by decide +kernel
theorem dL_law_2512 : decode cL_law 2512 = .ok (.istore 5, 2) := by decide +kernel
theorem dL_law_2514 : decode cL_law 2514 = .ok (.aload_n 2, 1) := by decide +kernel
theorem dL_law_2515 : decode cL_law 2515 = .ok (.aload_n 0, 1) := by decide +kernel
theorem dL_law_2516 : decode cL_law 2516 = .ok (.iload 4, 2) := by decide +kernel
theorem dL_law_2518 : decode cL_law 2518 = .ok (.iconst 1, 1) := by decide +kernel
theorem dL_law_2519 : decode cL_law 2519 = .ok (.iadd, 1) := by decide +kernel
theorem dL_law_2520 : decode cL_law 2520 = .ok (.iaload, 1) := by decide +kernel
theorem dL_law_2521 : decode cL_law 2521 = .ok (.invokevirtual 260, 3) := by decide +kernel
theorem dL_law_2524 : decode cL_law 2524 = .ok (.istore 6, 2) := by decide +kernel
theorem dL_law_2526 : decode cL_law 2526 = .ok (.aload_n 2, 1) := by decide +kernel
theorem dL_law_2527 : decode cL_law 2527 = .ok (.invokevirtual 150, 3) := by decide +kernel
theorem dL_law_2530 : decode cL_law 2530 = .ok (.iload 5, 2) := by decide +kernel
theorem dL_law_2532 : decode cL_law 2532 = .ok (.if_icmp .eq 5, 3) := by decide +kernel
theorem dL_law_2535 : decode cL_law 2535 = .ok (.iconst 0, 1) := by decide +kernel
theorem dL_law_2536 : decode cL_law 2536 = .ok (.ireturn, 1) := by decide +kernel
theorem dL_law_2537 : decode cL_law 2537 = .ok (.iload 5, 2) := by decide +kernel
theorem dL_law_2539 : decode cL_law 2539 = .ok (.ifCond .ne 15, 3) := by decide +kernel
theorem dL_law_2542 : decode cL_law 2542 = .ok (.aload_n 3, 1) := by decide +kernel
theorem dL_law_2543 : decode cL_law 2543 = .ok (.iconst 0, 1) := by decide +kernel
theorem dL_law_2544 : decode cL_law 2544 = .ok (.laload, 1) := by decide +kernel
theorem dL_law_2545 : decode cL_law 2545 = .ok (.iload 6, 2) := by decide +kernel
theorem dL_law_2547 : decode cL_law 2547 = .ok (.i2l, 1) := by decide +kernel
theorem dL_law_2548 : decode cL_law 2548 = .ok (.lcmp, 1) := by decide +kernel
theorem dL_law_2549 : decode cL_law 2549 = .ok (.ifCond .eq 5, 3) := by decide +kernel
theorem dL_law_2552 : decode cL_law 2552 = .ok (.iconst 0, 1) := by decide +kernel
theorem dL_law_2553 : decode cL_law 2553 = .ok (.ireturn, 1) := by decide +kernel
theorem dL_law_2554 : decode cL_law 2554 = .ok (.goto 487, 3) := by decide +kernel
theorem dL_law_2557 : decode cL_law 2557 = .ok (.aload_n 1, 1) := by decide +kernel
theorem dL_law_2558 : decode cL_law 2558 = .ok (.aload_n 0, 1) := by decide +kernel
theorem dL_law_2559 : decode cL_law 2559 = .ok (.iload 4, 2) := by decide +kernel
theorem dL_law_2561 : decode cL_law 2561 = .ok (.iconst 1, 1) := by decide +kernel
theorem dL_law_2562 : decode cL_law 2562 = .ok (.iadd, 1) := by decide +kernel
theorem dL_law_2563 : decode cL_law 2563 = .ok (.iaload, 1) := by decide +kernel
theorem dL_law_2564 : decode cL_law 2564 = .ok (.aload_n 3, 1) := by decide +kernel
theorem dL_law_2565 : decode cL_law 2565 = .ok (.invokestatic 261, 3) := by decide +kernel
theorem dL_law_2568 : decode cL_law 2568 = .ok (.istore 5, 2) := by decide +kernel
theorem dL_law_2570 : decode cL_law 2570 = .ok (.aload_n 2, 1) := by decide +kernel
theorem dL_law_2571 : decode cL_law 2571 = .ok (.aload_n 0, 1) := by decide +kernel
theorem dL_law_2572 : decode cL_law 2572 = .ok (.iload 4, 2) := by decide +kernel
theorem dL_law_2574 : decode cL_law 2574 = .ok (.iconst 1, 1) := by decide +kernel
theorem dL_law_2575 : decode cL_law 2575 = .ok (.iadd, 1) := by decide +kernel
theorem dL_law_2576 : decode cL_law 2576 = .ok (.iaload, 1) := by decide +kernel
theorem dL_law_2577 : decode cL_law 2577 = .ok (.invokevirtual 263, 3) := by decide +kernel
theorem dL_law_2580 : decode cL_law 2580 = .ok (.istore 6, 2) := by decide +kernel
theorem dL_law_2582 : decode cL_law 2582 = .ok (.aload_n 2, 1) := by decide +kernel
theorem dL_law_2583 : decode cL_law 2583 = .ok (.invokevirtual 150, 3) := by decide +kernel
theorem dL_law_2586 : decode cL_law 2586 = .ok (.iload 5, 2) := by decide +kernel
theorem dL_law_2588 : decode cL_law 2588 = .ok (.if_icmp .eq 5, 3) := by decide +kernel
theorem dL_law_2591 : decode cL_law 2591 = .ok (.iconst 0, 1) := by decide +kernel
theorem dL_law_2592 : decode cL_law 2592 = .ok (.ireturn, 1) := by decide +kernel
theorem dL_law_2593 : decode cL_law 2593 = .ok (.iload 5, 2) := by decide +kernel
theorem dL_law_2595 : decode cL_law 2595 = .ok (.ifCond .ne 15, 3) := by decide +kernel
theorem dL_law_2598 : decode cL_law 2598 = .ok (.aload_n 3, 1) := by decide +kernel
theorem dL_law_2599 : decode cL_law 2599 = .ok (.iconst 0, 1) := by decide +kernel
theorem dL_law_2600 : decode cL_law 2600 = .ok (.laload, 1) := by decide +kernel
theorem dL_law_2601 : decode cL_law 2601 = .ok (.iload 6, 2) := by decide +kernel
theorem dL_law_2603 : decode cL_law 2603 = .ok (.i2l, 1) := by decide +kernel
theorem dL_law_2604 : decode cL_law 2604 = .ok (.lcmp, 1) := by decide +kernel
theorem dL_law_2605 : decode cL_law 2605 = .ok (.ifCond .eq 5, 3) := by decide +kernel
theorem dL_law_2608 : decode cL_law 2608 = .ok (.iconst 0, 1) := by decide +kernel
theorem dL_law_2609 : decode cL_law 2609 = .ok (.ireturn, 1) := by decide +kernel
theorem dL_law_2610 : decode cL_law 2610 = .ok (.goto 431, 3) := by decide +kernel
theorem dL_law_2613 : decode cL_law 2613 = .ok (.aload_n 1, 1) := by decide +kernel
theorem dL_law_2614 : decode cL_law 2614 = .ok (.aload_n 0, 1) := by decide +kernel
theorem dL_law_2615 : decode cL_law 2615 = .ok (.iload 4, 2) := by decide +kernel
theorem dL_law_2617 : decode cL_law 2617 = .ok (.iconst 1, 1) := by decide +kernel
theorem dL_law_2618 : decode cL_law 2618 = .ok (.iadd, 1) := by decide +kernel
theorem dL_law_2619 : decode cL_law 2619 = .ok (.iaload, 1) := by decide +kernel
theorem dL_law_2620 : decode cL_law 2620 = .ok (.aload_n 3, 1) := by decide +kernel
theorem dL_law_2621 : decode cL_law 2621 = .ok (.invokestatic 264, 3) := by decide +kernel
theorem dL_law_2624 : decode cL_law 2624 = .ok (.istore 5, 2) := by decide +kernel
theorem dL_law_2626 : decode cL_law 2626 = .ok (.aload_n 2, 1) := by decide +kernel
theorem dL_law_2627 : decode cL_law 2627 = .ok (.aload_n 0, 1) := by decide +kernel
theorem dL_law_2628 : decode cL_law 2628 = .ok (.iload 4, 2) := by decide +kernel
theorem dL_law_2630 : decode cL_law 2630 = .ok (.iconst 1, 1) := by decide +kernel
theorem dL_law_2631 : decode cL_law 2631 = .ok (.iadd, 1) := by decide +kernel
theorem dL_law_2632 : decode cL_law 2632 = .ok (.iaload, 1) := by decide +kernel
theorem dL_law_2633 : decode cL_law 2633 = .ok (.invokevirtual 266, 3) := by decide +kernel
theorem dL_law_2636 : decode cL_law 2636 = .ok (.istore 6, 2) := by decide +kernel
theorem dL_law_2638 : decode cL_law 2638 = .ok (.aload_n 2, 1) := by decide +kernel
theorem dL_law_2639 : decode cL_law 2639 = .ok (.invokevirtual 150, 3) := by decide +kernel
theorem dL_law_2642 : decode cL_law 2642 = .ok (.iload 5, 2) := by decide +kernel
theorem dL_law_2644 : decode cL_law 2644 = .ok (.if_icmp .eq 5, 3) := by decide +kernel
theorem dL_law_2647 : decode cL_law 2647 = .ok (.iconst 0, 1) := by decide +kernel
theorem dL_law_2648 : decode cL_law 2648 = .ok (.ireturn, 1) := by decide +kernel
theorem dL_law_2649 : decode cL_law 2649 = .ok (.iload 5, 2) := by decide +kernel
theorem dL_law_2651 : decode cL_law 2651 = .ok (.ifCond .ne 15, 3) := by decide +kernel
theorem dL_law_2654 : decode cL_law 2654 = .ok (.aload_n 3, 1) := by decide +kernel
theorem dL_law_2655 : decode cL_law 2655 = .ok (.iconst 0, 1) := by decide +kernel
theorem dL_law_2656 : decode cL_law 2656 = .ok (.laload, 1) := by decide +kernel
theorem dL_law_2657 : decode cL_law 2657 = .ok (.iload 6, 2) := by decide +kernel
theorem dL_law_2659 : decode cL_law 2659 = .ok (.i2l, 1) := by decide +kernel
theorem dL_law_2660 : decode cL_law 2660 = .ok (.lcmp, 1) := by decide +kernel
theorem dL_law_2661 : decode cL_law 2661 = .ok (.ifCond .eq 5, 3) := by decide +kernel
theorem dL_law_2664 : decode cL_law 2664 = .ok (.iconst 0, 1) := by decide +kernel
theorem dL_law_2665 : decode cL_law 2665 = .ok (.ireturn, 1) := by decide +kernel
theorem dL_law_2666 : decode cL_law 2666 = .ok (.goto 375, 3) := by decide +kernel
theorem dL_law_2669 : decode cL_law 2669 = .ok (.aload_n 1, 1) := by decide +kernel
theorem dL_law_2670 : decode cL_law 2670 = .ok (.aload_n 0, 1) := by decide +kernel
theorem dL_law_2671 : decode cL_law 2671 = .ok (.iload 4, 2) := by decide +kernel
theorem dL_law_2673 : decode cL_law 2673 = .ok (.iconst 1, 1) := by decide +kernel
theorem dL_law_2674 : decode cL_law 2674 = .ok (.iadd, 1) := by decide +kernel
theorem dL_law_2675 : decode cL_law 2675 = .ok (.iaload, 1) := by decide +kernel
theorem dL_law_2676 : decode cL_law 2676 = .ok (.aload_n 0, 1) := by decide +kernel
theorem dL_law_2677 : decode cL_law 2677 = .ok (.iload 4, 2) := by decide +kernel
theorem dL_law_2679 : decode cL_law 2679 = .ok (.iconst 2, 1) := by decide +kernel
theorem dL_law_2680 : decode cL_law 2680 = .ok (.iadd, 1) := by decide +kernel
theorem dL_law_2681 : decode cL_law 2681 = .ok (.iaload, 1) := by decide +kernel
theorem dL_law_2682 : decode cL_law 2682 = .ok (.aload_n 3, 1) := by decide +kernel
theorem dL_law_2683 : decode cL_law 2683 = .ok (.invokestatic 267, 3) := by decide +kernel
theorem dL_law_2686 : decode cL_law 2686 = .ok (.istore 5, 2) := by decide +kernel
theorem dL_law_2688 : decode cL_law 2688 = .ok (.aload_n 2, 1) := by decide +kernel
theorem dL_law_2689 : decode cL_law 2689 = .ok (.aload_n 0, 1) := by decide +kernel
theorem dL_law_2690 : decode cL_law 2690 = .ok (.iload 4, 2) := by decide +kernel
theorem dL_law_2692 : decode cL_law 2692 = .ok (.iconst 1, 1) := by decide +kernel
theorem dL_law_2693 : decode cL_law 2693 = .ok (.iadd, 1) := by decide +kernel
theorem dL_law_2694 : decode cL_law 2694 = .ok (.iaload, 1) := by decide +kernel
theorem dL_law_2695 : decode cL_law 2695 = .ok (.aload_n 0, 1) := by decide +kernel
theorem dL_law_2696 : decode cL_law 2696 = .ok (.iload 4, 2) := by decide +kernel
theorem dL_law_2698 : decode cL_law 2698 = .ok (.iconst 2, 1) := by decide +kernel
theorem dL_law_2699 : decode cL_law 2699 = .ok (.iadd, 1) := by decide +kernel
theorem dL_law_2700 : decode cL_law 2700 = .ok (.iaload, 1) := by decide +kernel
theorem dL_law_2701 : decode cL_law 2701 = .ok (.invokevirtual 269, 3) := by decide +kernel
theorem dL_law_2704 : decode cL_law 2704 = .ok (.istore 6, 2) := by decide +kernel
theorem dL_law_2706 : decode cL_law 2706 = .ok (.aload_n 2, 1) := by decide +kernel
theorem dL_law_2707 : decode cL_law 2707 = .ok (.invokevirtual 150, 3) := by decide +kernel
theorem dL_law_2710 : decode cL_law 2710 = .ok (.iload 5, 2) := by decide +kernel
theorem dL_law_2712 : decode cL_law 2712 = .ok (.if_icmp .eq 5, 3) := by decide +kernel
theorem dL_law_2715 : decode cL_law 2715 = .ok (.iconst 0, 1) := by decide +kernel
theorem dL_law_2716 : decode cL_law 2716 = .ok (.ireturn, 1) := by decide +kernel
theorem dL_law_2717 : decode cL_law 2717 = .ok (.iload 5, 2) := by decide +kernel
theorem dL_law_2719 : decode cL_law 2719 = .ok (.ifCond .ne 15, 3) := by decide +kernel
theorem dL_law_2722 : decode cL_law 2722 = .ok (.aload_n 3, 1) := by decide +kernel
theorem dL_law_2723 : decode cL_law 2723 = .ok (.iconst 0, 1) := by decide +kernel
theorem dL_law_2724 : decode cL_law 2724 = .ok (.laload, 1) := by decide +kernel
theorem dL_law_2725 : decode cL_law 2725 = .ok (.iload 6, 2) := by decide +kernel
theorem dL_law_2727 : decode cL_law 2727 = .ok (.i2l, 1) := by decide +kernel
theorem dL_law_2728 : decode cL_law 2728 = .ok (.lcmp, 1) := by decide +kernel
theorem dL_law_2729 : decode cL_law 2729 = .ok (.ifCond .eq 5, 3) := by decide +kernel
theorem dL_law_2732 : decode cL_law 2732 = .ok (.iconst 0, 1) := by decide +kernel
theorem dL_law_2733 : decode cL_law 2733 = .ok (.ireturn, 1) := by decide +kernel
theorem dL_law_2734 : decode cL_law 2734 = .ok (.goto 307, 3) := by decide +kernel
theorem dL_law_2737 : decode cL_law 2737 = .ok (.aload_n 1, 1) := by decide +kernel
theorem dL_law_2738 : decode cL_law 2738 = .ok (.invokevirtual 270, 3) := by decide +kernel
theorem dL_law_2741 : decode cL_law 2741 = .ok (.aload_n 2, 1) := by decide +kernel
theorem dL_law_2742 : decode cL_law 2742 = .ok (.invokevirtual 273, 3) := by decide +kernel
theorem dL_law_2745 : decode cL_law 2745 = .ok (.if_icmp .eq 296, 3) := by decide +kernel
theorem dL_law_2748 : decode cL_law 2748 = .ok (.iconst 0, 1) := by decide +kernel
theorem dL_law_2749 : decode cL_law 2749 = .ok (.ireturn, 1) := by decide +kernel
theorem dL_law_2750 : decode cL_law 2750 = .ok (.aload_n 1, 1) := by decide +kernel
theorem dL_law_2751 : decode cL_law 2751 = .ok (.aload_n 0, 1) := by decide +kernel
theorem dL_law_2752 : decode cL_law 2752 = .ok (.iload 4, 2) := by decide +kernel
theorem dL_law_2754 : decode cL_law 2754 = .ok (.iconst 1, 1) := by decide +kernel
theorem dL_law_2755 : decode cL_law 2755 = .ok (.iadd, 1) := by decide +kernel
theorem dL_law_2756 : decode cL_law 2756 = .ok (.iaload, 1) := by decide +kernel
theorem dL_law_2757 : decode cL_law 2757 = .ok (.aload_n 3, 1) := by decide +kernel
theorem dL_law_2758 : decode cL_law 2758 = .ok (.invokestatic 274, 3) := by decide +kernel
theorem dL_law_2761 : decode cL_law 2761 = .ok (.istore 5, 2) := by decide +kernel
theorem dL_law_2763 : decode cL_law 2763 = .ok (.aload_n 2, 1) := by decide +kernel
theorem dL_law_2764 : decode cL_law 2764 = .ok (.aload_n 0, 1) := by decide +kernel
theorem dL_law_2765 : decode cL_law 2765 = .ok (.iload 4, 2) := by decide +kernel
theorem dL_law_2767 : decode cL_law 2767 = .ok (.iconst 1, 1) := by decide +kernel
theorem dL_law_2768 : decode cL_law 2768 = .ok (.iadd, 1) := by decide +kernel
theorem dL_law_2769 : decode cL_law 2769 = .ok (.iaload, 1) := by decide +kernel
theorem dL_law_2770 : decode cL_law 2770 = .ok (.invokevirtual 276, 3) := by decide +kernel
theorem dL_law_2773 : decode cL_law 2773 = .ok (.istore 6, 2) := by decide +kernel
theorem dL_law_2775 : decode cL_law 2775 = .ok (.aload_n 2, 1) := by decide +kernel
theorem dL_law_2776 : decode cL_law 2776 = .ok (.invokevirtual 150, 3) := by decide +kernel
theorem dL_law_2779 : decode cL_law 2779 = .ok (.iload 5, 2) := by decide +kernel
theorem dL_law_2781 : decode cL_law 2781 = .ok (.if_icmp .eq 5, 3) := by decide +kernel
theorem dL_law_2784 : decode cL_law 2784 = .ok (.iconst 0, 1) := by decide +kernel
theorem dL_law_2785 : decode cL_law 2785 = .ok (.ireturn, 1) := by decide +kernel
theorem dL_law_2786 : decode cL_law 2786 = .ok (.iload 5, 2) := by decide +kernel
theorem dL_law_2788 : decode cL_law 2788 = .ok (.ifCond .ne 15, 3) := by decide +kernel
theorem dL_law_2791 : decode cL_law 2791 = .ok (.aload_n 3, 1) := by decide +kernel
theorem dL_law_2792 : decode cL_law 2792 = .ok (.iconst 0, 1) := by decide +kernel
theorem dL_law_2793 : decode cL_law 2793 = .ok (.laload, 1) := by decide +kernel
theorem dL_law_2794 : decode cL_law 2794 = .ok (.iload 6, 2) := by decide +kernel
theorem dL_law_2796 : decode cL_law 2796 = .ok (.i2l, 1) := by decide +kernel
theorem dL_law_2797 : decode cL_law 2797 = .ok (.lcmp, 1) := by decide +kernel
theorem dL_law_2798 : decode cL_law 2798 = .ok (.ifCond .eq 5, 3) := by decide +kernel
theorem dL_law_2801 : decode cL_law 2801 = .ok (.iconst 0, 1) := by decide +kernel
theorem dL_law_2802 : decode cL_law 2802 = .ok (.ireturn, 1) := by decide +kernel
theorem dL_law_2803 : decode cL_law 2803 = .ok (.goto 238, 3) := by decide +kernel
theorem dL_law_2806 : decode cL_law 2806 = .ok (.aload_n 1, 1) := by decide +kernel
theorem dL_law_2807 : decode cL_law 2807 = .ok (.aload_n 0, 1) := by decide +kernel
theorem dL_law_2808 : decode cL_law 2808 = .ok (.iload 4, 2) := by decide +kernel
theorem dL_law_2810 : decode cL_law 2810 = .ok (.iconst 1, 1) := by decide +kernel
theorem dL_law_2811 : decode cL_law 2811 = .ok (.iadd, 1) := by decide +kernel
theorem dL_law_2812 : decode cL_law 2812 = .ok (.iaload, 1) := by decide +kernel
theorem dL_law_2813 : decode cL_law 2813 = .ok (.aload_n 3, 1) := by decide +kernel
theorem dL_law_2814 : decode cL_law 2814 = .ok (.invokestatic 277, 3) := by decide +kernel
theorem dL_law_2817 : decode cL_law 2817 = .ok (.istore 5, 2) := by decide +kernel
theorem dL_law_2819 : decode cL_law 2819 = .ok (.aload_n 2, 1) := by decide +kernel
theorem dL_law_2820 : decode cL_law 2820 = .ok (.aload_n 0, 1) := by decide +kernel
theorem dL_law_2821 : decode cL_law 2821 = .ok (.iload 4, 2) := by decide +kernel
theorem dL_law_2823 : decode cL_law 2823 = .ok (.iconst 1, 1) := by decide +kernel
theorem dL_law_2824 : decode cL_law 2824 = .ok (.iadd, 1) := by decide +kernel
theorem dL_law_2825 : decode cL_law 2825 = .ok (.iaload, 1) := by decide +kernel
theorem dL_law_2826 : decode cL_law 2826 = .ok (.invokevirtual 279, 3) := by decide +kernel
theorem dL_law_2829 : decode cL_law 2829 = .ok (.istore 6, 2) := by decide +kernel
theorem dL_law_2831 : decode cL_law 2831 = .ok (.aload_n 2, 1) := by decide +kernel
theorem dL_law_2832 : decode cL_law 2832 = .ok (.invokevirtual 150, 3) := by decide +kernel
theorem dL_law_2835 : decode cL_law 2835 = .ok (.iload 5, 2) := by decide +kernel
theorem dL_law_2837 : decode cL_law 2837 = .ok (.if_icmp .eq 5, 3) := by decide +kernel
theorem dL_law_2840 : decode cL_law 2840 = .ok (.iconst 0, 1) := by decide +kernel
theorem dL_law_2841 : decode cL_law 2841 = .ok (.ireturn, 1) := by decide +kernel
theorem dL_law_2842 : decode cL_law 2842 = .ok (.iload 5, 2) := by decide +kernel
theorem dL_law_2844 : decode cL_law 2844 = .ok (.ifCond .ne 15, 3) := by decide +kernel
theorem dL_law_2847 : decode cL_law 2847 = .ok (.aload_n 3, 1) := by decide +kernel
theorem dL_law_2848 : decode cL_law 2848 = .ok (.iconst 0, 1) := by decide +kernel
theorem dL_law_2849 : decode cL_law 2849 = .ok (.laload, 1) := by decide +kernel
theorem dL_law_2850 : decode cL_law 2850 = .ok (.iload 6, 2) := by decide +kernel
theorem dL_law_2852 : decode cL_law 2852 = .ok (.i2l, 1) := by decide +kernel
theorem dL_law_2853 : decode cL_law 2853 = .ok (.lcmp, 1) := by decide +kernel
theorem dL_law_2854 : decode cL_law 2854 = .ok (.ifCond .eq 5, 3) := by decide +kernel
theorem dL_law_2857 : decode cL_law 2857 = .ok (.iconst 0, 1) := by decide +kernel
theorem dL_law_2858 : decode cL_law 2858 = .ok (.ireturn, 1) := by decide +kernel
theorem dL_law_2859 : decode cL_law 2859 = .ok (.goto 182, 3) := by decide +kernel
theorem dL_law_2862 : decode cL_law 2862 = .ok (.aload_n 1, 1) := by decide +kernel
theorem dL_law_2863 : decode cL_law 2863 = .ok (.aload_n 0, 1) := by decide +kernel
theorem dL_law_2864 : decode cL_law 2864 = .ok (.iload 4, 2) := by decide +kernel
theorem dL_law_2866 : decode cL_law 2866 = .ok (.iconst 1, 1) := by decide +kernel
theorem dL_law_2867 : decode cL_law 2867 = .ok (.iadd, 1) := by decide +kernel
theorem dL_law_2868 : decode cL_law 2868 = .ok (.iaload, 1) := by decide +kernel
theorem dL_law_2869 : decode cL_law 2869 = .ok (.aload_n 0, 1) := by decide +kernel
theorem dL_law_2870 : decode cL_law 2870 = .ok (.iload 4, 2) := by decide +kernel
theorem dL_law_2872 : decode cL_law 2872 = .ok (.iconst 2, 1) := by decide +kernel
theorem dL_law_2873 : decode cL_law 2873 = .ok (.iadd, 1) := by decide +kernel
theorem dL_law_2874 : decode cL_law 2874 = .ok (.iaload, 1) := by decide +kernel
theorem dL_law_2875 : decode cL_law 2875 = .ok (.aload_n 3, 1) := by decide +kernel
theorem dL_law_2876 : decode cL_law 2876 = .ok (.invokestatic 280, 3) := by decide +kernel
theorem dL_law_2879 : decode cL_law 2879 = .ok (.istore 5, 2) := by decide +kernel
theorem dL_law_2881 : decode cL_law 2881 = .ok (.aload_n 2, 1) := by decide +kernel
theorem dL_law_2882 : decode cL_law 2882 = .ok (.aload_n 0, 1) := by decide +kernel
theorem dL_law_2883 : decode cL_law 2883 = .ok (.iload 4, 2) := by decide +kernel
theorem dL_law_2885 : decode cL_law 2885 = .ok (.iconst 1, 1) := by decide +kernel
theorem dL_law_2886 : decode cL_law 2886 = .ok (.iadd, 1) := by decide +kernel
theorem dL_law_2887 : decode cL_law 2887 = .ok (.iaload, 1) := by decide +kernel
theorem dL_law_2888 : decode cL_law 2888 = .ok (.aload_n 0, 1) := by decide +kernel
theorem dL_law_2889 : decode cL_law 2889 = .ok (.iload 4, 2) := by decide +kernel
theorem dL_law_2891 : decode cL_law 2891 = .ok (.iconst 2, 1) := by decide +kernel
theorem dL_law_2892 : decode cL_law 2892 = .ok (.iadd, 1) := by decide +kernel
theorem dL_law_2893 : decode cL_law 2893 = .ok (.iaload, 1) := by decide +kernel
theorem dL_law_2894 : decode cL_law 2894 = .ok (.invokevirtual 282, 3) := by decide +kernel
theorem dL_law_2897 : decode cL_law 2897 = .ok (.istore 6, 2) := by decide +kernel
theorem dL_law_2899 : decode cL_law 2899 = .ok (.aload_n 2, 1) := by decide +kernel
theorem dL_law_2900 : decode cL_law 2900 = .ok (.invokevirtual 150, 3) := by decide +kernel
theorem dL_law_2903 : decode cL_law 2903 = .ok (.iload 5, 2) := by decide +kernel
theorem dL_law_2905 : decode cL_law 2905 = .ok (.if_icmp .eq 5, 3) := by decide +kernel
theorem dL_law_2908 : decode cL_law 2908 = .ok (.iconst 0, 1) := by decide +kernel
theorem dL_law_2909 : decode cL_law 2909 = .ok (.ireturn, 1) := by decide +kernel
theorem dL_law_2910 : decode cL_law 2910 = .ok (.iload 5, 2) := by decide +kernel
theorem dL_law_2912 : decode cL_law 2912 = .ok (.ifCond .ne 15, 3) := by decide +kernel
theorem dL_law_2915 : decode cL_law 2915 = .ok (.aload_n 3, 1) := by decide +kernel
theorem dL_law_2916 : decode cL_law 2916 = .ok (.iconst 0, 1) := by decide +kernel
theorem dL_law_2917 : decode cL_law 2917 = .ok (.laload, 1) := by decide +kernel
theorem dL_law_2918 : decode cL_law 2918 = .ok (.iload 6, 2) := by decide +kernel
theorem dL_law_2920 : decode cL_law 2920 = .ok (.i2l, 1) := by decide +kernel
theorem dL_law_2921 : decode cL_law 2921 = .ok (.lcmp, 1) := by decide +kernel
theorem dL_law_2922 : decode cL_law 2922 = .ok (.ifCond .eq 5, 3) := by decide +kernel
theorem dL_law_2925 : decode cL_law 2925 = .ok (.iconst 0, 1) := by decide +kernel
theorem dL_law_2926 : decode cL_law 2926 = .ok (.ireturn, 1) := by decide +kernel
theorem dL_law_2927 : decode cL_law 2927 = .ok (.goto 114, 3) := by decide +kernel
theorem dL_law_2930 : decode cL_law 2930 = .ok (.aload_n 1, 1) := by decide +kernel
theorem dL_law_2931 : decode cL_law 2931 = .ok (.aload_n 0, 1) := by decide +kernel
theorem dL_law_2932 : decode cL_law 2932 = .ok (.iload 4, 2) := by decide +kernel
theorem dL_law_2934 : decode cL_law 2934 = .ok (.iconst 1, 1) := by decide +kernel
theorem dL_law_2935 : decode cL_law 2935 = .ok (.iadd, 1) := by decide +kernel
theorem dL_law_2936 : decode cL_law 2936 = .ok (.iaload, 1) := by decide +kernel
theorem dL_law_2937 : decode cL_law 2937 = .ok (.aload_n 3, 1) := by decide +kernel
theorem dL_law_2938 : decode cL_law 2938 = .ok (.invokestatic 283, 3) := by decide +kernel
theorem dL_law_2941 : decode cL_law 2941 = .ok (.istore 5, 2) := by decide +kernel
theorem dL_law_2943 : decode cL_law 2943 = .ok (.aload_n 2, 1) := by decide +kernel
theorem dL_law_2944 : decode cL_law 2944 = .ok (.aload_n 0, 1) := by decide +kernel
theorem dL_law_2945 : decode cL_law 2945 = .ok (.iload 4, 2) := by decide +kernel
theorem dL_law_2947 : decode cL_law 2947 = .ok (.iconst 1, 1) := by decide +kernel
theorem dL_law_2948 : decode cL_law 2948 = .ok (.iadd, 1) := by decide +kernel
theorem dL_law_2949 : decode cL_law 2949 = .ok (.iaload, 1) := by decide +kernel
theorem dL_law_2950 : decode cL_law 2950 = .ok (.invokevirtual 285, 3) := by decide +kernel
theorem dL_law_2953 : decode cL_law 2953 = .ok (.istore 6, 2) := by decide +kernel
theorem dL_law_2955 : decode cL_law 2955 = .ok (.aload_n 2, 1) := by decide +kernel
theorem dL_law_2956 : decode cL_law 2956 = .ok (.invokevirtual 150, 3) := by decide +kernel
theorem dL_law_2959 : decode cL_law 2959 = .ok (.iload 5, 2) := by decide +kernel
theorem dL_law_2961 : decode cL_law 2961 = .ok (.if_icmp .eq 5, 3) := by decide +kernel
theorem dL_law_2964 : decode cL_law 2964 = .ok (.iconst 0, 1) := by decide +kernel
theorem dL_law_2965 : decode cL_law 2965 = .ok (.ireturn, 1) := by decide +kernel
theorem dL_law_2966 : decode cL_law 2966 = .ok (.iload 5, 2) := by decide +kernel
theorem dL_law_2968 : decode cL_law 2968 = .ok (.ifCond .ne 15, 3) := by decide +kernel
theorem dL_law_2971 : decode cL_law 2971 = .ok (.aload_n 3, 1) := by decide +kernel
theorem dL_law_2972 : decode cL_law 2972 = .ok (.iconst 0, 1) := by decide +kernel
theorem dL_law_2973 : decode cL_law 2973 = .ok (.laload, 1) := by decide +kernel
theorem dL_law_2974 : decode cL_law 2974 = .ok (.iload 6, 2) := by decide +kernel
theorem dL_law_2976 : decode cL_law 2976 = .ok (.i2l, 1) := by decide +kernel
theorem dL_law_2977 : decode cL_law 2977 = .ok (.lcmp, 1) := by decide +kernel
theorem dL_law_2978 : decode cL_law 2978 = .ok (.ifCond .eq 5, 3) := by decide +kernel
theorem dL_law_2981 : decode cL_law 2981 = .ok (.iconst 0, 1) := by decide +kernel
theorem dL_law_2982 : decode cL_law 2982 = .ok (.ireturn, 1) := by decide +kernel
theorem dL_law_2983 : decode cL_law 2983 = .ok (.goto 58, 3) := by decide +kernel
theorem dL_law_2986 : decode cL_law 2986 = .ok (.aload_n 1, 1) := by decide +kernel
theorem dL_law_2987 : decode cL_law 2987 = .ok (.invokevirtual 286, 3) := by decide +kernel
theorem dL_law_2990 : decode cL_law 2990 = .ok (.dstore 5, 2) := by decide +kernel
theorem dL_law_2992 : decode cL_law 2992 = .ok (.aload_n 2, 1) := by decide +kernel
theorem dL_law_2993 : decode cL_law 2993 = .ok (.invokevirtual 290, 3) := by decide +kernel
theorem dL_law_2996 : decode cL_law 2996 = .ok (.dstore 7, 2) := by decide +kernel
theorem dL_law_2998 : decode cL_law 2998 = .ok (.dload 5, 2) := by decide +kernel
theorem dL_law_3000 : decode cL_law 3000 = .ok (.dload 7, 2) := by decide +kernel
theorem dL_law_3002 : decode cL_law 3002 = .ok (.dcmp .l, 1) := by decide +kernel
theorem dL_law_3003 : decode cL_law 3003 = .ok (.ifCond .eq 21, 3) := by decide +kernel
theorem dL_law_3006 : decode cL_law 3006 = .ok (.dload 5, 2) := by decide +kernel
theorem dL_law_3008 : decode cL_law 3008 = .ok (.dload 5, 2) := by decide +kernel
theorem dL_law_3010 : decode cL_law 3010 = .ok (.dcmp .l, 1) := by decide +kernel
theorem dL_law_3011 : decode cL_law 3011 = .ok (.ifCond .eq 11, 3) := by decide +kernel
theorem dL_law_3014 : decode cL_law 3014 = .ok (.dload 7, 2) := by decide +kernel
theorem dL_law_3016 : decode cL_law 3016 = .ok (.dload 7, 2) := by decide +kernel
theorem dL_law_3018 : decode cL_law 3018 = .ok (.dcmp .l, 1) := by decide +kernel
theorem dL_law_3019 : decode cL_law 3019 = .ok (.ifCond .ne 5, 3) := by decide +kernel
theorem dL_law_3022 : decode cL_law 3022 = .ok (.iconst 0, 1) := by decide +kernel
theorem dL_law_3023 : decode cL_law 3023 = .ok (.ireturn, 1) := by decide +kernel
theorem dL_law_3024 : decode cL_law 3024 = .ok (.goto 17, 3) := by decide +kernel
theorem dL_law_3027 : decode cL_law 3027 = .ok (.aload_n 1, 1) := by decide +kernel
theorem dL_law_3028 : decode cL_law 3028 = .ok (.invokevirtual 291, 3) := by decide +kernel
theorem dL_law_3031 : decode cL_law 3031 = .ok (.aload_n 2, 1) := by decide +kernel
theorem dL_law_3032 : decode cL_law 3032 = .ok (.invokevirtual 295, 3) := by decide +kernel
theorem dL_law_3035 : decode cL_law 3035 = .ok (.lcmp, 1) := by decide +kernel
theorem dL_law_3036 : decode cL_law 3036 = .ok (.ifCond .eq 5, 3) := by decide +kernel
theorem dL_law_3039 : decode cL_law 3039 = .ok (.iconst 0, 1) := by decide +kernel
theorem dL_law_3040 : decode cL_law 3040 = .ok (.ireturn, 1) := by decide +kernel
theorem dL_law_3041 : decode cL_law 3041 = .ok (.iinc 4 5, 3) := by decide +kernel
theorem dL_law_3044 : decode cL_law 3044 = .ok (.goto (-3021), 3) := by decide +kernel
theorem dL_law_3047 : decode cL_law 3047 = .ok (.iconst 1, 1) := by decide +kernel
theorem dL_law_3048 : decode cL_law 3048 = .ok (.ireturn, 1) := by decide +kernel
