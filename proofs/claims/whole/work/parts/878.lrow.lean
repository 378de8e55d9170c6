/-! The law: its rows 8 (written by wip/whole/genlaw.py) -/
section
theorem d417_2408 : decode code 2408 = .ok (.iconst 1, 1) := by decide +kernel
theorem d417_2409 : decode code 2409 = .ok (.iadd, 1) := by decide +kernel
theorem d417_2410 : decode code 2410 = .ok (.iaload, 1) := by decide +kernel
theorem d417_2411 : decode code 2411 = .ok (.invokevirtual 290, 3) := by decide +kernel
theorem d417_2414 : decode code 2414 = .ok (.lstore 6, 2) := by decide +kernel
theorem d417_2416 : decode code 2416 = .ok (.aload_n 2, 1) := by decide +kernel
theorem d417_2417 : decode code 2417 = .ok (.invokevirtual 147, 3) := by decide +kernel
theorem d417_2420 : decode code 2420 = .ok (.iload 5, 2) := by decide +kernel
theorem d417_2422 : decode code 2422 = .ok (.if_icmp .eq 5, 3) := by decide +kernel
theorem d417_2425 : decode code 2425 = .ok (.iconst 0, 1) := by decide +kernel
theorem d417_2426 : decode code 2426 = .ok (.ireturn, 1) := by decide +kernel
theorem d417_2427 : decode code 2427 = .ok (.iload 5, 2) := by decide +kernel
theorem d417_2429 : decode code 2429 = .ok (.ifCond .ne 14, 3) := by decide +kernel
theorem d417_2432 : decode code 2432 = .ok (.aload_n 3, 1) := by decide +kernel
theorem d417_2433 : decode code 2433 = .ok (.iconst 0, 1) := by decide +kernel
theorem d417_2434 : decode code 2434 = .ok (.laload, 1) := by decide +kernel
theorem d417_2435 : decode code 2435 = .ok (.lload 6, 2) := by decide +kernel
theorem d417_2437 : decode code 2437 = .ok (.lcmp, 1) := by decide +kernel
theorem d417_2438 : decode code 2438 = .ok (.ifCond .eq 5, 3) := by decide +kernel
theorem d417_2441 : decode code 2441 = .ok (.iconst 0, 1) := by decide +kernel
theorem d417_2442 : decode code 2442 = .ok (.ireturn, 1) := by decide +kernel
theorem d417_2443 : decode code 2443 = .ok (.goto 340, 3) := by decide +kernel
theorem d417_2446 : decode code 2446 = .ok (.aload_n 1, 1) := by decide +kernel
theorem d417_2447 : decode code 2447 = .ok (.aload_n 0, 1) := by decide +kernel
theorem d417_2448 : decode code 2448 = .ok (.iload 4, 2) := by decide +kernel
theorem d417_2450 : decode code 2450 = .ok (.iconst 1, 1) := by decide +kernel
theorem d417_2451 : decode code 2451 = .ok (.iadd, 1) := by decide +kernel
theorem d417_2452 : decode code 2452 = .ok (.iaload, 1) := by decide +kernel
theorem d417_2453 : decode code 2453 = .ok (.aload_n 3, 1) := by decide +kernel
theorem d417_2454 : decode code 2454 = .ok (.invokestatic 291, 3) := by decide +kernel
theorem d417_2457 : decode code 2457 = .ok (.istore 5, 2) := by decide +kernel
theorem d417_2459 : decode code 2459 = .ok (.aload_n 2, 1) := by decide +kernel
theorem d417_2460 : decode code 2460 = .ok (.aload_n 0, 1) := by decide +kernel
theorem d417_2461 : decode code 2461 = .ok (.iload 4, 2) := by decide +kernel
theorem d417_2463 : decode code 2463 = .ok (.iconst 1, 1) := by decide +kernel
theorem d417_2464 : decode code 2464 = .ok (.iadd, 1) := by decide +kernel
theorem d417_2465 : decode code 2465 = .ok (.iaload, 1) := by decide +kernel
theorem d417_2466 : decode code 2466 = .ok (.invokevirtual 293, 3) := by decide +kernel
theorem d417_2469 : decode code 2469 = .ok (.lstore 6, 2) := by decide +kernel
theorem d417_2471 : decode code 2471 = .ok (.aload_n 2, 1) := by decide +kernel
theorem d417_2472 : decode code 2472 = .ok (.invokevirtual 147, 3) := by decide +kernel
theorem d417_2475 : decode code 2475 = .ok (.iload 5, 2) := by decide +kernel
theorem d417_2477 : decode code 2477 = .ok (.if_icmp .eq 5, 3) := by decide +kernel
theorem d417_2480 : decode code 2480 = .ok (.iconst 0, 1) := by decide +kernel
theorem d417_2481 : decode code 2481 = .ok (.ireturn, 1) := by decide +kernel
theorem d417_2482 : decode code 2482 = .ok (.iload 5, 2) := by decide +kernel
theorem d417_2484 : decode code 2484 = .ok (.ifCond .ne 14, 3) := by decide +kernel
theorem d417_2487 : decode code 2487 = .ok (.aload_n 3, 1) := by decide +kernel
theorem d417_2488 : decode code 2488 = .ok (.iconst 0, 1) := by decide +kernel
theorem d417_2489 : decode code 2489 = .ok (.laload, 1) := by decide +kernel
theorem d417_2490 : decode code 2490 = .ok (.lload 6, 2) := by decide +kernel
theorem d417_2492 : decode code 2492 = .ok (.lcmp, 1) := by decide +kernel
theorem d417_2493 : decode code 2493 = .ok (.ifCond .eq 5, 3) := by decide +kernel
theorem d417_2496 : decode code 2496 = .ok (.iconst 0, 1) := by decide +kernel
theorem d417_2497 : decode code 2497 = .ok (.ireturn, 1) := by decide +kernel
theorem d417_2498 : decode code 2498 = .ok (.goto 285, 3) := by decide +kernel
theorem d417_2501 : decode code 2501 = .ok (.aload_n 1, 1) := by decide +kernel
theorem d417_2502 : decode code 2502 = .ok (.invokevirtual 294, 3) := by decide +kernel
theorem d417_2505 : decode code 2505 = .ok (.dstore 5, 2) := by decide +kernel
theorem d417_2507 : decode code 2507 = .ok (.aload_n 2, 1) := by decide +kernel
theorem d417_2508 : decode code 2508 = .ok (.invokevirtual 298, 3) := by decide +kernel
theorem d417_2511 : decode code 2511 = .ok (.dstore 7, 2) := by decide +kernel
theorem d417_2513 : decode code 2513 = .ok (.dload 5, 2) := by decide +kernel
theorem d417_2515 : decode code 2515 = .ok (.dload 7, 2) := by decide +kernel
theorem d417_2517 : decode code 2517 = .ok (.dcmp .l, 1) := by decide +kernel
theorem d417_2518 : decode code 2518 = .ok (.ifCond .eq 21, 3) := by decide +kernel
theorem d417_2521 : decode code 2521 = .ok (.dload 5, 2) := by decide +kernel
theorem d417_2523 : decode code 2523 = .ok (.dload 5, 2) := by decide +kernel
theorem d417_2525 : decode code 2525 = .ok (.dcmp .l, 1) := by decide +kernel
theorem d417_2526 : decode code 2526 = .ok (.ifCond .eq 11, 3) := by decide +kernel
theorem d417_2529 : decode code 2529 = .ok (.dload 7, 2) := by decide +kernel
theorem d417_2531 : decode code 2531 = .ok (.dload 7, 2) := by decide +kernel
theorem d417_2533 : decode code 2533 = .ok (.dcmp .l, 1) := by decide +kernel
theorem d417_2534 : decode code 2534 = .ok (.ifCond .ne 5, 3) := by decide +kernel
theorem d417_2537 : decode code 2537 = .ok (.iconst 0, 1) := by decide +kernel
theorem d417_2538 : decode code 2538 = .ok (.ireturn, 1) := by decide +kernel
theorem d417_2539 : decode code 2539 = .ok (.goto 244, 3) := by decide +kernel
theorem d417_2542 : decode code 2542 = .ok (.aload_n 1, 1) := by decide +kernel
theorem d417_2543 : decode code 2543 = .ok (.aload_n 0, 1) := by decide +kernel
theorem d417_2544 : decode code 2544 = .ok (.iload 4, 2) := by decide +kernel
theorem d417_2546 : decode code 2546 = .ok (.iconst 1, 1) := by decide +kernel
theorem d417_2547 : decode code 2547 = .ok (.iadd, 1) := by decide +kernel
theorem d417_2548 : decode code 2548 = .ok (.iaload, 1) := by decide +kernel
theorem d417_2549 : decode code 2549 = .ok (.invokevirtual 299, 3) := by decide +kernel
theorem d417_2552 : decode code 2552 = .ok (.aload_n 2, 1) := by decide +kernel
theorem d417_2553 : decode code 2553 = .ok (.aload_n 0, 1) := by decide +kernel
theorem d417_2554 : decode code 2554 = .ok (.iload 4, 2) := by decide +kernel
theorem d417_2556 : decode code 2556 = .ok (.iconst 1, 1) := by decide +kernel
theorem d417_2557 : decode code 2557 = .ok (.iadd, 1) := by decide +kernel
theorem d417_2558 : decode code 2558 = .ok (.iaload, 1) := by decide +kernel
theorem d417_2559 : decode code 2559 = .ok (.invokevirtual 302, 3) := by decide +kernel
theorem d417_2562 : decode code 2562 = .ok (.if_icmp .eq 221, 3) := by decide +kernel
theorem d417_2565 : decode code 2565 = .ok (.iconst 0, 1) := by decide +kernel
theorem d417_2566 : decode code 2566 = .ok (.ireturn, 1) := by decide +kernel
theorem d417_2567 : decode code 2567 = .ok (.aload_n 1, 1) := by decide +kernel
theorem d417_2568 : decode code 2568 = .ok (.aload_n 0, 1) := by decide +kernel
theorem d417_2569 : decode code 2569 = .ok (.iload 4, 2) := by decide +kernel
theorem d417_2571 : decode code 2571 = .ok (.iconst 1, 1) := by decide +kernel
theorem d417_2572 : decode code 2572 = .ok (.iadd, 1) := by decide +kernel
theorem d417_2573 : decode code 2573 = .ok (.iaload, 1) := by decide +kernel
theorem d417_2574 : decode code 2574 = .ok (.aload_n 0, 1) := by decide +kernel
theorem d417_2575 : decode code 2575 = .ok (.iload 4, 2) := by decide +kernel
theorem d417_2577 : decode code 2577 = .ok (.iconst 2, 1) := by decide +kernel
theorem d417_2578 : decode code 2578 = .ok (.iadd, 1) := by decide +kernel
theorem d417_2579 : decode code 2579 = .ok (.iaload, 1) := by decide +kernel
theorem d417_2580 : decode code 2580 = .ok (.aload_n 0, 1) := by decide +kernel
theorem d417_2581 : decode code 2581 = .ok (.iload 4, 2) := by decide +kernel
theorem d417_2583 : decode code 2583 = .ok (.iconst 3, 1) := by decide +kernel
theorem d417_2584 : decode code 2584 = .ok (.iadd, 1) := by decide +kernel
theorem d417_2585 : decode code 2585 = .ok (.iaload, 1) := by decide +kernel
theorem d417_2586 : decode code 2586 = .ok (.aload_n 3, 1) := by decide +kernel
theorem d417_2587 : decode code 2587 = .ok (.invokestatic 303, 3) := by decide +kernel
theorem d417_2590 : decode code 2590 = .ok (.istore 5, 2) := by decide +kernel
theorem d417_2592 : decode code 2592 = .ok (.aload_n 2, 1) := by decide +kernel
theorem d417_2593 : decode code 2593 = .ok (.aload_n 0, 1) := by decide +kernel
theorem d417_2594 : decode code 2594 = .ok (.iload 4, 2) := by decide +kernel
theorem d417_2596 : decode code 2596 = .ok (.iconst 1, 1) := by decide +kernel
theorem d417_2597 : decode code 2597 = .ok (.iadd, 1) := by decide +kernel
theorem d417_2598 : decode code 2598 = .ok (.iaload, 1) := by decide +kernel
theorem d417_2599 : decode code 2599 = .ok (.aload_n 0, 1) := by decide +kernel
theorem d417_2600 : decode code 2600 = .ok (.iload 4, 2) := by decide +kernel
theorem d417_2602 : decode code 2602 = .ok (.iconst 2, 1) := by decide +kernel
theorem d417_2603 : decode code 2603 = .ok (.iadd, 1) := by decide +kernel
theorem d417_2604 : decode code 2604 = .ok (.iaload, 1) := by decide +kernel
theorem d417_2605 : decode code 2605 = .ok (.aload_n 0, 1) := by decide +kernel
theorem d417_2606 : decode code 2606 = .ok (.iload 4, 2) := by decide +kernel
theorem d417_2608 : decode code 2608 = .ok (.iconst 3, 1) := by decide +kernel
theorem d417_2609 : decode code 2609 = .ok (.iadd, 1) := by decide +kernel
theorem d417_2610 : decode code 2610 = .ok (.iaload, 1) := by decide +kernel
theorem d417_2611 : decode code 2611 = .ok (.invokevirtual 305, 3) := by decide +kernel
theorem d417_2614 : decode code 2614 = .ok (.istore 6, 2) := by decide +kernel
theorem d417_2616 : decode code 2616 = .ok (.aload_n 2, 1) := by decide +kernel
theorem d417_2617 : decode code 2617 = .ok (.invokevirtual 147, 3) := by decide +kernel
theorem d417_2620 : decode code 2620 = .ok (.iload 5, 2) := by decide +kernel
theorem d417_2622 : decode code 2622 = .ok (.if_icmp .eq 5, 3) := by decide +kernel
theorem d417_2625 : decode code 2625 = .ok (.iconst 0, 1) := by decide +kernel
theorem d417_2626 : decode code 2626 = .ok (.ireturn, 1) := by decide +kernel
theorem d417_2627 : decode code 2627 = .ok (.iload 5, 2) := by decide +kernel
theorem d417_2629 : decode code 2629 = .ok (.ifCond .ne 15, 3) := by decide +kernel
theorem d417_2632 : decode code 2632 = .ok (.aload_n 3, 1) := by decide +kernel
theorem d417_2633 : decode code 2633 = .ok (.iconst 0, 1) := by decide +kernel
theorem d417_2634 : decode code 2634 = .ok (.laload, 1) := by decide +kernel
theorem d417_2635 : decode code 2635 = .ok (.iload 6, 2) := by decide +kernel
theorem d417_2637 : decode code 2637 = .ok (.i2l, 1) := by decide +kernel
theorem d417_2638 : decode code 2638 = .ok (.lcmp, 1) := by decide +kernel
theorem d417_2639 : decode code 2639 = .ok (.ifCond .eq 5, 3) := by decide +kernel
theorem d417_2642 : decode code 2642 = .ok (.iconst 0, 1) := by decide +kernel
theorem d417_2643 : decode code 2643 = .ok (.ireturn, 1) := by decide +kernel
theorem d417_2644 : decode code 2644 = .ok (.goto 139, 3) := by decide +kernel
theorem d417_2647 : decode code 2647 = .ok (.aload_n 1, 1) := by decide +kernel
theorem d417_2648 : decode code 2648 = .ok (.aload_n 0, 1) := by decide +kernel
theorem d417_2649 : decode code 2649 = .ok (.iload 4, 2) := by decide +kernel
theorem d417_2651 : decode code 2651 = .ok (.iconst 1, 1) := by decide +kernel
theorem d417_2652 : decode code 2652 = .ok (.iadd, 1) := by decide +kernel
theorem d417_2653 : decode code 2653 = .ok (.iaload, 1) := by decide +kernel
theorem d417_2654 : decode code 2654 = .ok (.aload_n 0, 1) := by decide +kernel
theorem d417_2655 : decode code 2655 = .ok (.iload 4, 2) := by decide +kernel
theorem d417_2657 : decode code 2657 = .ok (.iconst 2, 1) := by decide +kernel
theorem d417_2658 : decode code 2658 = .ok (.iadd, 1) := by decide +kernel
theorem d417_2659 : decode code 2659 = .ok (.iaload, 1) := by decide +kernel
theorem d417_2660 : decode code 2660 = .ok (.aload_n 0, 1) := by decide +kernel
theorem d417_2661 : decode code 2661 = .ok (.iload 4, 2) := by decide +kernel
theorem d417_2663 : decode code 2663 = .ok (.iconst 3, 1) := by decide +kernel
theorem d417_2664 : decode code 2664 = .ok (.iadd, 1) := by decide +kernel
theorem d417_2665 : decode code 2665 = .ok (.iaload, 1) := by decide +kernel
theorem d417_2666 : decode code 2666 = .ok (.aload_n 3, 1) := by decide +kernel
theorem d417_2667 : decode code 2667 = .ok (.invokestatic 306, 3) := by decide +kernel
theorem d417_2670 : decode code 2670 = .ok (.istore 5, 2) := by decide +kernel
theorem d417_2672 : decode code 2672 = .ok (.aload_n 2, 1) := by decide +kernel
theorem d417_2673 : decode code 2673 = .ok (.aload_n 0, 1) := by decide +kernel
end
