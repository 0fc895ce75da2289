/-! decode rows of the law -/
theorem dL_law_2468 : decode code 2468 = .ok (.iload 4, 2) := by decide +kernel
theorem dL_law_2470 : decode code 2470 = .ok (.iconst 2, 1) := by decide +kernel
theorem dL_law_2471 : decode code 2471 = .ok (.iadd, 1) := by decide +kernel
theorem dL_law_2472 : decode code 2472 = .ok (.iaload, 1) := by decide +kernel
theorem dL_law_2473 : decode code 2473 = .ok (.ifCond .eq 7, 3) := by decide +kernel
theorem dL_law_2476 : decode code 2476 = .ok (.iconst 1, 1) := by decide +kernel
theorem dL_law_2477 : decode code 2477 = .ok (.goto 4, 3) := by decide +kernel
theorem dL_law_2480 : decode code 2480 = .ok (.iconst 0, 1) := by decide +kernel
theorem dL_law_2481 : decode code 2481 = .ok (.invokevirtual 226, 3) := by decide +kernel
theorem dL_law_2484 : decode code 2484 = .ok (.lcmp, 1) := by decide +kernel
theorem dL_law_2485 : decode code 2485 = .ok (.ifCond .eq 310, 3) := by decide +kernel
theorem dL_law_2488 : decode code 2488 = .ok (.iconst 0, 1) := by decide +kernel
theorem dL_law_2489 : decode code 2489 = .ok (.ireturn, 1) := by decide +kernel
theorem dL_law_2490 : decode code 2490 = .ok (.aload_n 1, 1) := by decide +kernel
theorem dL_law_2491 : decode code 2491 = .ok (.aload_n 0, 1) := by decide +kernel
theorem dL_law_2492 : decode code 2492 = .ok (.iload 4, 2) := by decide +kernel
theorem dL_law_2494 : decode code 2494 = .ok (.iconst 1, 1) := by decide +kernel
theorem dL_law_2495 : decode code 2495 = .ok (.iadd, 1) := by decide +kernel
theorem dL_law_2496 : decode code 2496 = .ok (.iaload, 1) := by decide +kernel
theorem dL_law_2497 : decode code 2497 = .ok (.aload_n 0, 1) := by decide +kernel
theorem dL_law_2498 : decode code 2498 = .ok (.iload 4, 2) := by decide +kernel
theorem dL_law_2500 : decode code 2500 = .ok (.iconst 2, 1) := by decide +kernel
theorem dL_law_2501 : decode code 2501 = .ok (.iadd, 1) := by decide +kernel
theorem dL_law_2502 : decode code 2502 = .ok (.iaload, 1) := by decide +kernel
theorem dL_law_2503 : decode code 2503 = .ok (.aload_n 0, 1) := by decide +kernel
theorem dL_law_2504 : decode code 2504 = .ok (.iload 4, 2) := by decide +kernel
theorem dL_law_2506 : decode code 2506 = .ok (.iconst 3, 1) := by decide +kernel
theorem dL_law_2507 : decode code 2507 = .ok (.iadd, 1) := by decide +kernel
theorem dL_law_2508 : decode code 2508 = .ok (.iaload, 1) := by decide +kernel
theorem dL_law_2509 : decode code 2509 = .ok (.invokevirtual 227, 3) := by decide +kernel
theorem dL_law_2512 : decode code 2512 = .ok (.aload_n 2, 1) := by decide +kernel
theorem dL_law_2513 : decode code 2513 = .ok (.aload_n 0, 1) := by decide +kernel
theorem dL_law_2514 : decode code 2514 = .ok (.iload 4, 2) := by decide +kernel
theorem dL_law_2516 : decode code 2516 = .ok (.iconst 1, 1) := by decide +kernel
theorem dL_law_2517 : decode code 2517 = .ok (.iadd, 1) := by decide +kernel
theorem dL_law_2518 : decode code 2518 = .ok (.iaload, 1) := by decide +kernel
theorem dL_law_2519 : decode code 2519 = .ok (.aload_n 0, 1) := by decide +kernel
theorem dL_law_2520 : decode code 2520 = .ok (.iload 4, 2) := by decide +kernel
theorem dL_law_2522 : decode code 2522 = .ok (.iconst 2, 1) := by decide +kernel
theorem dL_law_2523 : decode code 2523 = .ok (.iadd, 1) := by decide +kernel
theorem dL_law_2524 : decode code 2524 = .ok (.iaload, 1) := by decide +kernel
theorem dL_law_2525 : decode code 2525 = .ok (.aload_n 0, 1) := by decide +kernel
theorem dL_law_2526 : decode code 2526 = .ok (.iload 4, 2) := by decide +kernel
theorem dL_law_2528 : decode code 2528 = .ok (.iconst 3, 1) := by decide +kernel
theorem dL_law_2529 : decode code 2529 = .ok (.iadd, 1) := by decide +kernel
theorem dL_law_2530 : decode code 2530 = .ok (.iaload, 1) := by decide +kernel
theorem dL_law_2531 : decode code 2531 = .ok (.invokevirtual 231, 3) := by decide +kernel
theorem dL_law_2534 : decode code 2534 = .ok (.if_icmp .eq 261, 3) := by decide +kernel
theorem dL_law_2537 : decode code 2537 = .ok (.iconst 0, 1) := by decide +kernel
theorem dL_law_2538 : decode code 2538 = .ok (.ireturn, 1) := by decide +kernel
theorem dL_law_2539 : decode code 2539 = .ok (.aload_n 1, 1) := by decide +kernel
theorem dL_law_2540 : decode code 2540 = .ok (.aload_n 0, 1) := by decide +kernel
theorem dL_law_2541 : decode code 2541 = .ok (.iload 4, 2) := by decide +kernel
theorem dL_law_2543 : decode code 2543 = .ok (.iconst 1, 1) := by decide +kernel
theorem dL_law_2544 : decode code 2544 = .ok (.iadd, 1) := by decide +kernel
theorem dL_law_2545 : decode code 2545 = .ok (.iaload, 1) := by decide +kernel
theorem dL_law_2546 : decode code 2546 = .ok (.invokevirtual 232, 3) := by decide +kernel
theorem dL_law_2549 : decode code 2549 = .ok (.aload_n 2, 1) := by decide +kernel
theorem dL_law_2550 : decode code 2550 = .ok (.aload_n 0, 1) := by decide +kernel
theorem dL_law_2551 : decode code 2551 = .ok (.iload 4, 2) := by decide +kernel
theorem dL_law_2553 : decode code 2553 = .ok (.iconst 1, 1) := by decide +kernel
theorem dL_law_2554 : decode code 2554 = .ok (.iadd, 1) := by decide +kernel
theorem dL_law_2555 : decode code 2555 = .ok (.iaload, 1) := by decide +kernel
theorem dL_law_2556 : decode code 2556 = .ok (.invokevirtual 235, 3) := by decide +kernel
theorem dL_law_2559 : decode code 2559 = .ok (.if_icmp .eq 236, 3) := by decide +kernel
theorem dL_law_2562 : decode code 2562 = .ok (.iconst 0, 1) := by decide +kernel
theorem dL_law_2563 : decode code 2563 = .ok (.ireturn, 1) := by decide +kernel
theorem dL_law_2564 : decode code 2564 = .ok (.aload_n 1, 1) := by decide +kernel
theorem dL_law_2565 : decode code 2565 = .ok (.aload_n 0, 1) := by decide +kernel
theorem dL_law_2566 : decode code 2566 = .ok (.iload 4, 2) := by decide +kernel
theorem dL_law_2568 : decode code 2568 = .ok (.iconst 1, 1) := by decide +kernel
theorem dL_law_2569 : decode code 2569 = .ok (.iadd, 1) := by decide +kernel
theorem dL_law_2570 : decode code 2570 = .ok (.iaload, 1) := by decide +kernel
theorem dL_law_2571 : decode code 2571 = .ok (.invokevirtual 236, 3) := by decide +kernel
theorem dL_law_2574 : decode code 2574 = .ok (.aload_n 2, 1) := by decide +kernel
theorem dL_law_2575 : decode code 2575 = .ok (.aload_n 0, 1) := by decide +kernel
theorem dL_law_2576 : decode code 2576 = .ok (.iload 4, 2) := by decide +kernel
theorem dL_law_2578 : decode code 2578 = .ok (.iconst 1, 1) := by decide +kernel
theorem dL_law_2579 : decode code 2579 = .ok (.iadd, 1) := by decide +kernel
theorem dL_law_2580 : decode code 2580 = .ok (.iaload, 1) := by decide +kernel
theorem dL_law_2581 : decode code 2581 = .ok (.invokevirtual 239, 3) := by decide +kernel
theorem dL_law_2584 : decode code 2584 = .ok (.if_icmp .eq 211, 3) := by decide +kernel
theorem dL_law_2587 : decode code 2587 = .ok (.iconst 0, 1) := by decide +kernel
theorem dL_law_2588 : decode code 2588 = .ok (.ireturn, 1) := by decide +kernel
theorem dL_law_2589 : decode code 2589 = .ok (.aload_n 1, 1) := by decide +kernel
theorem dL_law_2590 : decode code 2590 = .ok (.invokevirtual 240, 3) := by decide +kernel
theorem dL_law_2593 : decode code 2593 = .ok (.aload_n 2, 1) := by decide +kernel
theorem dL_law_2594 : decode code 2594 = .ok (.invokevirtual 243, 3) := by decide +kernel
theorem dL_law_2597 : decode code 2597 = .ok (.if_icmp .eq 198, 3) := by decide +kernel
theorem dL_law_2600 : decode code 2600 = .ok (.iconst 0, 1) := by decide +kernel
theorem dL_law_2601 : decode code 2601 = .ok (.ireturn, 1) := by decide +kernel
theorem dL_law_2602 : decode code 2602 = .ok (.aload_n 1, 1) := by decide +kernel
theorem dL_law_2603 : decode code 2603 = .ok (.aload_n 0, 1) := by decide +kernel
theorem dL_law_2604 : decode code 2604 = .ok (.iload 4, 2) := by decide +kernel
theorem dL_law_2606 : decode code 2606 = .ok (.iconst 1, 1) := by decide +kernel
theorem dL_law_2607 : decode code 2607 = .ok (.iadd, 1) := by decide +kernel
theorem dL_law_2608 : decode code 2608 = .ok (.iaload, 1) := by decide +kernel
theorem dL_law_2609 : decode code 2609 = .ok (.aload_n 0, 1) := by decide +kernel
theorem dL_law_2610 : decode code 2610 = .ok (.iload 4, 2) := by decide +kernel
theorem dL_law_2612 : decode code 2612 = .ok (.iconst 2, 1) := by decide +kernel
theorem dL_law_2613 : decode code 2613 = .ok (.iadd, 1) := by decide +kernel
theorem dL_law_2614 : decode code 2614 = .ok (.iaload, 1) := by decide +kernel
theorem dL_law_2615 : decode code 2615 = .ok (.invokevirtual 244, 3) := by decide +kernel
theorem dL_law_2618 : decode code 2618 = .ok (.aload_n 2, 1) := by decide +kernel
theorem dL_law_2619 : decode code 2619 = .ok (.aload_n 0, 1) := by decide +kernel
theorem dL_law_2620 : decode code 2620 = .ok (.iload 4, 2) := by decide +kernel
theorem dL_law_2622 : decode code 2622 = .ok (.iconst 1, 1) := by decide +kernel
theorem dL_law_2623 : decode code 2623 = .ok (.iadd, 1) := by decide +kernel
theorem dL_law_2624 : decode code 2624 = .ok (.iaload, 1) := by decide +kernel
theorem dL_law_2625 : decode code 2625 = .ok (.aload_n 0, 1) := by decide +kernel
theorem dL_law_2626 : decode code 2626 = .ok (.iload 4, 2) := by decide +kernel
theorem dL_law_2628 : decode code 2628 = .ok (.iconst 2, 1) := by decide +kernel
theorem dL_law_2629 : decode code 2629 = .ok (.iadd, 1) := by decide +kernel
theorem dL_law_2630 : decode code 2630 = .ok (.iaload, 1) := by decide +kernel
theorem dL_law_2631 : decode code 2631 = .ok (.invokevirtual 247, 3) := by decide +kernel
theorem dL_law_2634 : decode code 2634 = .ok (.if_icmp .eq 161, 3) := by decide +kernel
theorem dL_law_2637 : decode code 2637 = .ok (.iconst 0, 1) := by decide +kernel
theorem dL_law_2638 : decode code 2638 = .ok (.ireturn, 1) := by decide +kernel
theorem dL_law_2639 : decode code 2639 = .ok (.aload_n 1, 1) := by decide +kernel
theorem dL_law_2640 : decode code 2640 = .ok (.aload_n 0, 1) := by decide +kernel
theorem dL_law_2641 : decode code 2641 = .ok (.iload 4, 2) := by decide +kernel
theorem dL_law_2643 : decode code 2643 = .ok (.iconst 1, 1) := by decide +kernel
theorem dL_law_2644 : decode code 2644 = .ok (.iadd, 1) := by decide +kernel
theorem dL_law_2645 : decode code 2645 = .ok (.iaload, 1) := by decide +kernel
theorem dL_law_2646 : decode code 2646 = .ok (.aload_n 0, 1) := by decide +kernel
theorem dL_law_2647 : decode code 2647 = .ok (.iload 4, 2) := by decide +kernel
theorem dL_law_2649 : decode code 2649 = .ok (.iconst 2, 1) := by decide +kernel
theorem dL_law_2650 : decode code 2650 = .ok (.iadd, 1) := by decide +kernel
theorem dL_law_2651 : decode code 2651 = .ok (.iaload, 1) := by decide +kernel
theorem dL_law_2652 : decode code 2652 = .ok (.aload_n 0, 1) := by decide +kernel
theorem dL_law_2653 : decode code 2653 = .ok (.iload 4, 2) := by decide +kernel
theorem dL_law_2655 : decode code 2655 = .ok (.iconst 3, 1) := by decide +kernel
theorem dL_law_2656 : decode code 2656 = .ok (.iadd, 1) := by decide +kernel
theorem dL_law_2657 : decode code 2657 = .ok (.iaload, 1) := by decide +kernel
theorem dL_law_2658 : decode code 2658 = .ok (.invokevirtual 248, 3) := by decide +kernel
theorem dL_law_2661 : decode code 2661 = .ok (.aload_n 2, 1) := by decide +kernel
theorem dL_law_2662 : decode code 2662 = .ok (.aload_n 0, 1) := by decide +kernel
theorem dL_law_2663 : decode code 2663 = .ok (.iload 4, 2) := by decide +kernel
theorem dL_law_2665 : decode code 2665 = .ok (.iconst 1, 1) := by decide +kernel
theorem dL_law_2666 : decode code 2666 = .ok (.iadd, 1) := by decide +kernel
theorem dL_law_2667 : decode code 2667 = .ok (.iaload, 1) := by decide +kernel
theorem dL_law_2668 : decode code 2668 = .ok (.aload_n 0, 1) := by decide +kernel
theorem dL_law_2669 : decode code 2669 = .ok (.iload 4, 2) := by decide +kernel
theorem dL_law_2671 : decode code 2671 = .ok (.iconst 2, 1) := by decide +kernel
theorem dL_law_2672 : decode code 2672 = .ok (.iadd, 1) := by decide +kernel
theorem dL_law_2673 : decode code 2673 = .ok (.iaload, 1) := by decide +kernel
theorem dL_law_2674 : decode code 2674 = .ok (.aload_n 0, 1) := by decide +kernel
theorem dL_law_2675 : decode code 2675 = .ok (.iload 4, 2) := by decide +kernel
theorem dL_law_2677 : decode code 2677 = .ok (.iconst 3, 1) := by decide +kernel
theorem dL_law_2678 : decode code 2678 = .ok (.iadd, 1) := by decide +kernel
theorem dL_law_2679 : decode code 2679 = .ok (.iaload, 1) := by decide +kernel
theorem dL_law_2680 : decode code 2680 = .ok (.invokevirtual 251, 3) := by decide +kernel
theorem dL_law_2683 : decode code 2683 = .ok (.if_icmp .eq 112, 3) := by decide +kernel
theorem dL_law_2686 : decode code 2686 = .ok (.iconst 0, 1) := by decide +kernel
theorem dL_law_2687 : decode code 2687 = .ok (.ireturn, 1) := by decide +kernel
theorem dL_law_2688 : decode code 2688 = .ok (.aload_n 1, 1) := by decide +kernel
theorem dL_law_2689 : decode code 2689 = .ok (.invokevirtual 252, 3) := by decide +kernel
theorem dL_law_2692 : decode code 2692 = .ok (.aload_n 2, 1) := by decide +kernel
theorem dL_law_2693 : decode code 2693 = .ok (.invokevirtual 256, 3) := by decide +kernel
theorem dL_law_2696 : decode code 2696 = .ok (.if_icmp .eq 99, 3) := by decide +kernel
theorem dL_law_2699 : decode code 2699 = .ok (.iconst 0, 1) := by decide +kernel
theorem dL_law_2700 : decode code 2700 = .ok (.ireturn, 1) := by decide +kernel
theorem dL_law_2701 : decode code 2701 = .ok (.aload_n 1, 1) := by decide +kernel
theorem dL_law_2702 : decode code 2702 = .ok (.aload_n 0, 1) := by decide +kernel
theorem dL_law_2703 : decode code 2703 = .ok (.iload 4, 2) := by decide +kernel
theorem dL_law_2705 : decode code 2705 = .ok (.iconst 1, 1) := by decide +kernel
theorem dL_law_2706 : decode code 2706 = .ok (.iadd, 1) := by decide +kernel
theorem dL_law_2707 : decode code 2707 = .ok (.iaload, 1) := by decide +kernel
theorem dL_law_2708 : decode code 2708 = .ok (.aload_n 3, 1) := by decide +kernel
theorem dL_law_2709 : decode code 2709 = .ok (.invokestatic 257, 3) := by decide +kernel
theorem dL_law_2712 : decode code 2712 = .ok (.istore 5, 2) := by decide +kernel
theorem dL_law_2714 : decode code 2714 = .ok (.aload_n 2, 1) := by decide +kernel
theorem dL_law_2715 : decode code 2715 = .ok (.aload_n 0, 1) := by decide +kernel
theorem dL_law_2716 : decode code 2716 = .ok (.iload 4, 2) := by decide +kernel
theorem dL_law_2718 : decode code 2718 = .ok (.iconst 1, 1) := by decide +kernel
theorem dL_law_2719 : decode code 2719 = .ok (.iadd, 1) := by decide +kernel
theorem dL_law_2720 : decode code 2720 = .ok (.iaload, 1) := by decide +kernel
theorem dL_law_2721 : decode code 2721 = .ok (.invokevirtual 262, 3) := by decide +kernel
theorem dL_law_2724 : decode code 2724 = .ok (.istore 6, 2) := by decide +kernel
theorem dL_law_2726 : decode code 2726 = .ok (.aload_n 2, 1) := by decide +kernel
theorem dL_law_2727 : decode code 2727 = .ok (.invokevirtual 263, 3) := by decide +kernel
theorem dL_law_2730 : decode code 2730 = .ok (.iload 5, 2) := by decide +kernel
theorem dL_law_2732 : decode code 2732 = .ok (.if_icmp .eq 5, 3) := by decide +kernel
theorem dL_law_2735 : decode code 2735 = .ok (.iconst 0, 1) := by decide +kernel
theorem dL_law_2736 : decode code 2736 = .ok (.ireturn, 1) := by decide +kernel
theorem dL_law_2737 : decode code 2737 = .ok (.iload 5, 2) := by decide +kernel
theorem dL_law_2739 : decode code 2739 = .ok (.ifCond .ne 15, 3) := by decide +kernel
theorem dL_law_2742 : decode code 2742 = .ok (.aload_n 3, 1) := by decide +kernel
theorem dL_law_2743 : decode code 2743 = .ok (.iconst 0, 1) := by decide +kernel
theorem dL_law_2744 : decode code 2744 = .ok (.laload, 1) := by decide +kernel
theorem dL_law_2745 : decode code 2745 = .ok (.iload 6, 2) := by decide +kernel
theorem dL_law_2747 : decode code 2747 = .ok (.i2l, 1) := by decide +kernel
theorem dL_law_2748 : decode code 2748 = .ok (.lcmp, 1) := by decide +kernel
theorem dL_law_2749 : decode code 2749 = .ok (.ifCond .eq 5, 3) := by decide +kernel
theorem dL_law_2752 : decode code 2752 = .ok (.iconst 0, 1) := by decide +kernel
theorem dL_law_2753 : decode code 2753 = .ok (.ireturn, 1) := by decide +kernel
theorem dL_law_2754 : decode code 2754 = .ok (.goto 41, 3) := by decide +kernel
theorem dL_law_2757 : decode code 2757 = .ok (.aload_n 1, 1) := by decide +kernel
theorem dL_law_2758 : decode code 2758 = .ok (.aload_n 0, 1) := by decide +kernel
theorem dL_law_2759 : decode code 2759 = .ok (.iload 4, 2) := by decide +kernel
theorem dL_law_2761 : decode code 2761 = .ok (.iconst 1, 1) := by decide +kernel
theorem dL_law_2762 : decode code 2762 = .ok (.iadd, 1) := by decide +kernel
theorem dL_law_2763 : decode code 2763 = .ok (.iaload, 1) := by decide +kernel
theorem dL_law_2764 : decode code 2764 = .ok (.invokevirtual 266, 3) := by decide +kernel
theorem dL_law_2767 : decode code 2767 = .ok (.aload_n 2, 1) := by decide +kernel
theorem dL_law_2768 : decode code 2768 = .ok (.aload_n 0, 1) := by decide +kernel
theorem dL_law_2769 : decode code 2769 = .ok (.iload 4, 2) := by decide +kernel
theorem dL_law_2771 : decode code 2771 = .ok (.iconst 1, 1) := by decide +kernel
theorem dL_law_2772 : decode code 2772 = .ok (.iadd, 1) := by decide +kernel
theorem dL_law_2773 : decode code 2773 = .ok (.iaload, 1) := by decide +kernel
theorem dL_law_2774 : decode code 2774 = .ok (.invokevirtual 269, 3) := by decide +kernel
theorem dL_law_2777 : decode code 2777 = .ok (.if_icmp .eq 18, 3) := by decide +kernel
theorem dL_law_2780 : decode code 2780 = .ok (.iconst 0, 1) := by decide +kernel
theorem dL_law_2781 : decode code 2781 = .ok (.ireturn, 1) := by decide +kernel
theorem dL_law_2782 : decode code 2782 = .ok (.aload_n 1, 1) := by decide +kernel
theorem dL_law_2783 : decode code 2783 = .ok (.invokevirtual 270, 3) := by decide +kernel
theorem dL_law_2786 : decode code 2786 = .ok (.aload_n 2, 1) := by decide +kernel
theorem dL_law_2787 : decode code 2787 = .ok (.invokevirtual 273, 3) := by decide +kernel
theorem dL_law_2790 : decode code 2790 = .ok (.if_icmp .eq 5, 3) := by decide +kernel
theorem dL_law_2793 : decode code 2793 = .ok (.iconst 0, 1) := by decide +kernel
theorem dL_law_2794 : decode code 2794 = .ok (.ireturn, 1) := by decide +kernel
theorem dL_law_2795 : decode code 2795 = .ok (.iinc 4 6, 3) := by decide +kernel
theorem dL_law_2798 : decode code 2798 = .ok (.goto (-2775), 3) := by decide +kernel
theorem dL_law_2801 : decode code 2801 = .ok (.iconst 1, 1) := by decide +kernel
theorem dL_law_2802 : decode code 2802 = .ok (.ireturn, 1) := by decide +kernel
