theorem dL_law_2552 : decode cL_law 2552 = .ok (.iconst 0, 1) := by decide +kernel
theorem dL_law_2553 : decode cL_law 2553 = .ok (.ireturn, 1) := by decide +kernel
theorem dL_law_2554 : decode cL_law 2554 = .ok (.goto 280, 3) := by decide +kernel
theorem dL_law_2557 : decode cL_law 2557 = .ok (.aload_n 1, 1) := by decide +kernel
theorem dL_law_2558 : decode cL_law 2558 = .ok (.aload_n 3, 1) := by decide +kernel
theorem dL_law_2559 : decode cL_law 2559 = .ok (.invokestatic 349, 3) := by decide +kernel
theorem dL_law_2562 : decode cL_law 2562 = .ok (.istore 6, 2) := by decide +kernel
theorem dL_law_2564 : decode cL_law 2564 = .ok (.aload_n 2, 1) := by decide +kernel
theorem dL_law_2565 : decode cL_law 2565 = .ok (.invokevirtual 351, 3) := by decide +kernel
theorem dL_law_2568 : decode cL_law 2568 = .ok (.istore 7, 2) := by decide +kernel
theorem dL_law_2570 : decode cL_law 2570 = .ok (.aload_n 2, 1) := by decide +kernel
theorem dL_law_2571 : decode cL_law 2571 = .ok (.invokevirtual 161, 3) := by decide +kernel
theorem dL_law_2574 : decode cL_law 2574 = .ok (.iload 6, 2) := by decide +kernel
theorem dL_law_2576 : decode cL_law 2576 = .ok (.if_icmp .eq 5, 3) := by decide +kernel
theorem dL_law_2579 : decode cL_law 2579 = .ok (.iconst 0, 1) := by decide +kernel
theorem dL_law_2580 : decode cL_law 2580 = .ok (.ireturn, 1) := by decide +kernel
theorem dL_law_2581 : decode cL_law 2581 = .ok (.iload 6, 2) := by decide +kernel
theorem dL_law_2583 : decode cL_law 2583 = .ok (.ifCond .ne 15, 3) := by decide +kernel
theorem dL_law_2586 : decode cL_law 2586 = .ok (.aload_n 3, 1) := by decide +kernel
theorem dL_law_2587 : decode cL_law 2587 = .ok (.iconst 0, 1) := by decide +kernel
theorem dL_law_2588 : decode cL_law 2588 = .ok (.laload, 1) := by decide +kernel
theorem dL_law_2589 : decode cL_law 2589 = .ok (.iload 7, 2) := by decide +kernel
theorem dL_law_2591 : decode cL_law 2591 = .ok (.i2l, 1) := by decide +kernel
theorem dL_law_2592 : decode cL_law 2592 = .ok (.lcmp, 1) := by decide +kernel
theorem dL_law_2593 : decode cL_law 2593 = .ok (.ifCond .eq 5, 3) := by decide +kernel
theorem dL_law_2596 : decode cL_law 2596 = .ok (.iconst 0, 1) := by decide +kernel
theorem dL_law_2597 : decode cL_law 2597 = .ok (.ireturn, 1) := by decide +kernel
theorem dL_law_2598 : decode cL_law 2598 = .ok (.goto 236, 3) := by decide +kernel
theorem dL_law_2601 : decode cL_law 2601 = .ok (.aload_n 1, 1) := by decide +kernel
theorem dL_law_2602 : decode cL_law 2602 = .ok (.aload_n 3, 1) := by decide +kernel
theorem dL_law_2603 : decode cL_law 2603 = .ok (.invokestatic 352, 3) := by decide +kernel
theorem dL_law_2606 : decode cL_law 2606 = .ok (.istore 6, 2) := by decide +kernel
theorem dL_law_2608 : decode cL_law 2608 = .ok (.aload_n 2, 1) := by decide +kernel
theorem dL_law_2609 : decode cL_law 2609 = .ok (.invokevirtual 354, 3) := by decide +kernel
theorem dL_law_2612 : decode cL_law 2612 = .ok (.istore 7, 2) := by decide +kernel
theorem dL_law_2614 : decode cL_law 2614 = .ok (.aload_n 2, 1) := by decide +kernel
theorem dL_law_2615 : decode cL_law 2615 = .ok (.invokevirtual 161, 3) := by decide +kernel
theorem dL_law_2618 : decode cL_law 2618 = .ok (.iload 6, 2) := by decide +kernel
theorem dL_law_2620 : decode cL_law 2620 = .ok (.if_icmp .eq 5, 3) := by decide +kernel
theorem dL_law_2623 : decode cL_law 2623 = .ok (.iconst 0, 1) := by decide +kernel
theorem dL_law_2624 : decode cL_law 2624 = .ok (.ireturn, 1) := by decide +kernel
theorem dL_law_2625 : decode cL_law 2625 = .ok (.iload 6, 2) := by decide +kernel
theorem dL_law_2627 : decode cL_law 2627 = .ok (.ifCond .ne 15, 3) := by decide +kernel
theorem dL_law_2630 : decode cL_law 2630 = .ok (.aload_n 3, 1) := by decide +kernel
theorem dL_law_2631 : decode cL_law 2631 = .ok (.iconst 0, 1) := by decide +kernel
theorem dL_law_2632 : decode cL_law 2632 = .ok (.laload, 1) := by decide +kernel
theorem dL_law_2633 : decode cL_law 2633 = .ok (.iload 7, 2) := by decide +kernel
theorem dL_law_2635 : decode cL_law 2635 = .ok (.i2l, 1) := by decide +kernel
theorem dL_law_2636 : decode cL_law 2636 = .ok (.lcmp, 1) := by decide +kernel
theorem dL_law_2637 : decode cL_law 2637 = .ok (.ifCond .eq 5, 3) := by decide +kernel
theorem dL_law_2640 : decode cL_law 2640 = .ok (.iconst 0, 1) := by decide +kernel
theorem dL_law_2641 : decode cL_law 2641 = .ok (.ireturn, 1) := by decide +kernel
theorem dL_law_2642 : decode cL_law 2642 = .ok (.goto 192, 3) := by decide +kernel
theorem dL_law_2645 : decode cL_law 2645 = .ok (.aload_n 1, 1) := by decide +kernel
theorem dL_law_2646 : decode cL_law 2646 = .ok (.aload_n 3, 1) := by decide +kernel
theorem dL_law_2647 : decode cL_law 2647 = .ok (.invokestatic 355, 3) := by decide +kernel
theorem dL_law_2650 : decode cL_law 2650 = .ok (.istore 6, 2) := by decide +kernel
theorem dL_law_2652 : decode cL_law 2652 = .ok (.aload_n 2, 1) := by decide +kernel
theorem dL_law_2653 : decode cL_law 2653 = .ok (.invokevirtual 357, 3) := by decide +kernel
theorem dL_law_2656 : decode cL_law 2656 = .ok (.istore 7, 2) := by decide +kernel
theorem dL_law_2658 : decode cL_law 2658 = .ok (.aload_n 2, 1) := by decide +kernel
theorem dL_law_2659 : decode cL_law 2659 = .ok (.invokevirtual 161, 3) := by decide +kernel
theorem dL_law_2662 : decode cL_law 2662 = .ok (.iload 6, 2) := by decide +kernel
theorem dL_law_2664 : decode cL_law 2664 = .ok (.if_icmp .eq 5, 3) := by decide +kernel
theorem dL_law_2667 : decode cL_law 2667 = .ok (.iconst 0, 1) := by decide +kernel
theorem dL_law_2668 : decode cL_law 2668 = .ok (.ireturn, 1) := by decide +kernel
theorem dL_law_2669 : decode cL_law 2669 = .ok (.iload 6, 2) := by decide +kernel
theorem dL_law_2671 : decode cL_law 2671 = .ok (.ifCond .ne 15, 3) := by decide +kernel
theorem dL_law_2674 : decode cL_law 2674 = .ok (.aload_n 3, 1) := by decide +kernel
theorem dL_law_2675 : decode cL_law 2675 = .ok (.iconst 0, 1) := by decide +kernel
theorem dL_law_2676 : decode cL_law 2676 = .ok (.laload, 1) := by decide +kernel
theorem dL_law_2677 : decode cL_law 2677 = .ok (.iload 7, 2) := by decide +kernel
theorem dL_law_2679 : decode cL_law 2679 = .ok (.i2l, 1) := by decide +kernel
theorem dL_law_2680 : decode cL_law 2680 = .ok (.lcmp, 1) := by decide +kernel
theorem dL_law_2681 : decode cL_law 2681 = .ok (.ifCond .eq 5, 3) := by decide +kernel
theorem dL_law_2684 : decode cL_law 2684 = .ok (.iconst 0, 1) := by decide +kernel
theorem dL_law_2685 : decode cL_law 2685 = .ok (.ireturn, 1) := by decide +kernel
theorem dL_law_2686 : decode cL_law 2686 = .ok (.goto 148, 3) := by decide +kernel
theorem dL_law_2689 : decode cL_law 2689 = .ok (.aload_n 1, 1) := by decide +kernel
theorem dL_law_2690 : decode cL_law 2690 = .ok (.aload_n 3, 1) := by decide +kernel
theorem dL_law_2691 : decode cL_law 2691 = .ok (.invokestatic 358, 3) := by decide +kernel
theorem dL_law_2694 : decode cL_law 2694 = .ok (.istore 6, 2) := by decide +kernel
theorem dL_law_2696 : decode cL_law 2696 = .ok (.aload_n 2, 1) := by decide +kernel
theorem dL_law_2697 : decode cL_law 2697 = .ok (.invokevirtual 360, 3) := by decide +kernel
theorem dL_law_2700 : decode cL_law 2700 = .ok (.istore 7, 2) := by decide +kernel
theorem dL_law_2702 : decode cL_law 2702 = .ok (.aload_n 2, 1) := by decide +kernel
theorem dL_law_2703 : decode cL_law 2703 = .ok (.invokevirtual 161, 3) := by decide +kernel
theorem dL_law_2706 : decode cL_law 2706 = .ok (.iload 6, 2) := by decide +kernel
theorem dL_law_2708 : decode cL_law 2708 = .ok (.if_icmp .eq 5, 3) := by decide +kernel
theorem dL_law_2711 : decode cL_law 2711 = .ok (.iconst 0, 1) := by decide +kernel
theorem dL_law_2712 : decode cL_law 2712 = .ok (.ireturn, 1) := by decide +kernel
theorem dL_law_2713 : decode cL_law 2713 = .ok (.iload 6, 2) := by decide +kernel
theorem dL_law_2715 : decode cL_law 2715 = .ok (.ifCond .ne 15, 3) := by decide +kernel
theorem dL_law_2718 : decode cL_law 2718 = .ok (.aload_n 3, 1) := by decide +kernel
theorem dL_law_2719 : decode cL_law 2719 = .ok (.iconst 0, 1) := by decide +kernel
theorem dL_law_2720 : decode cL_law 2720 = .ok (.laload, 1) := by decide +kernel
theorem dL_law_2721 : decode cL_law 2721 = .ok (.iload 7, 2) := by decide +kernel
theorem dL_law_2723 : decode cL_law 2723 = .ok (.i2l, 1) := by decide +kernel
theorem dL_law_2724 : decode cL_law 2724 = .ok (.lcmp, 1) := by decide +kernel
theorem dL_law_2725 : decode cL_law 2725 = .ok (.ifCond .eq 5, 3) := by decide +kernel
theorem dL_law_2728 : decode cL_law 2728 = .ok (.iconst 0, 1) := by decide +kernel
theorem dL_law_2729 : decode cL_law 2729 = .ok (.ireturn, 1) := by decide +kernel
theorem dL_law_2730 : decode cL_law 2730 = .ok (.goto 104, 3) := by decide +kernel
theorem dL_law_2733 : decode cL_law 2733 = .ok (.aload_n 1, 1) := by decide +kernel
theorem dL_law_2734 : decode cL_law 2734 = .ok (.aload_n 3, 1) := by decide +kernel
theorem dL_law_2735 : decode cL_law 2735 = .ok (.invokestatic 361, 3) := by decide +kernel
theorem dL_law_2738 : decode cL_law 2738 = .ok (.istore 6, 2) := by decide +kernel
theorem dL_law_2740 : decode cL_law 2740 = .ok (.aload_n 2, 1) := by decide +kernel
theorem dL_law_2741 : decode cL_law 2741 = .ok (.invokevirtual 363, 3) := by decide +kernel
theorem dL_law_2744 : decode cL_law 2744 = .ok (.istore 7, 2) := by decide +kernel
theorem dL_law_2746 : decode cL_law 2746 = .ok (.aload_n 2, 1) := by decide +kernel
theorem dL_law_2747 : decode cL_law 2747 = .ok (.invokevirtual 161, 3) := by decide +kernel
theorem dL_law_2750 : decode cL_law 2750 = .ok (.iload 6, 2) := by decide +kernel
theorem dL_law_2752 : decode cL_law 2752 = .ok (.if_icmp .eq 5, 3) := by decide +kernel
theorem dL_law_2755 : decode cL_law 2755 = .ok (.iconst 0, 1) := by decide +kernel
theorem dL_law_2756 : decode cL_law 2756 = .ok (.ireturn, 1) := by decide +kernel
theorem dL_law_2757 : decode cL_law 2757 = .ok (.iload 6, 2) := by decide +kernel
theorem dL_law_2759 : decode cL_law 2759 = .ok (.ifCond .ne 15, 3) := by decide +kernel
theorem dL_law_2762 : decode cL_law 2762 = .ok (.aload_n 3, 1) := by decide +kernel
theorem dL_law_2763 : decode cL_law 2763 = .ok (.iconst 0, 1) := by decide +kernel
theorem dL_law_2764 : decode cL_law 2764 = .ok (.laload, 1) := by decide +kernel
theorem dL_law_2765 : decode cL_law 2765 = .ok (.iload 7, 2) := by decide +kernel
theorem dL_law_2767 : decode cL_law 2767 = .ok (.i2l, 1) := by decide +kernel
theorem dL_law_2768 : decode cL_law 2768 = .ok (.lcmp, 1) := by decide +kernel
theorem dL_law_2769 : decode cL_law 2769 = .ok (.ifCond .eq 5, 3) := by decide +kernel
theorem dL_law_2772 : decode cL_law 2772 = .ok (.iconst 0, 1) := by decide +kernel
theorem dL_law_2773 : decode cL_law 2773 = .ok (.ireturn, 1) := by decide +kernel
theorem dL_law_2774 : decode cL_law 2774 = .ok (.goto 60, 3) := by decide +kernel
theorem dL_law_2777 : decode cL_law 2777 = .ok (.aload_n 1, 1) := by decide +kernel
theorem dL_law_2778 : decode cL_law 2778 = .ok (.invokevirtual 364, 3) := by decide +kernel
theorem dL_law_2781 : decode cL_law 2781 = .ok (.aload_n 2, 1) := by decide +kernel
theorem dL_law_2782 : decode cL_law 2782 = .ok (.invokevirtual 367, 3) := by decide +kernel
theorem dL_law_2785 : decode cL_law 2785 = .ok (.if_icmp .eq 49, 3) := by decide +kernel
theorem dL_law_2788 : decode cL_law 2788 = .ok (.iconst 0, 1) := by decide +kernel
theorem dL_law_2789 : decode cL_law 2789 = .ok (.ireturn, 1) := by decide +kernel
theorem dL_law_2790 : decode cL_law 2790 = .ok (.aload_n 1, 1) := by decide +kernel
theorem dL_law_2791 : decode cL_law 2791 = .ok (.aload_n 3, 1) := by decide +kernel
theorem dL_law_2792 : decode cL_law 2792 = .ok (.invokestatic 368, 3) := by decide +kernel
theorem dL_law_2795 : decode cL_law 2795 = .ok (.istore 6, 2) := by decide +kernel
theorem dL_law_2797 : decode cL_law 2797 = .ok (.aload_n 2, 1) := by decide +kernel
theorem dL_law_2798 : decode cL_law 2798 = .ok (.invokevirtual 370, 3) := by decide +kernel
theorem dL_law_2801 : decode cL_law 2801 = .ok (.istore 7, 2) := by decide +kernel
theorem dL_law_2803 : decode cL_law 2803 = .ok (.aload_n 2, 1) := by decide +kernel
theorem dL_law_2804 : decode cL_law 2804 = .ok (.invokevirtual 161, 3) := by decide +kernel
theorem dL_law_2807 : decode cL_law 2807 = .ok (.iload 6, 2) := by decide +kernel
theorem dL_law_2809 : decode cL_law 2809 = .ok (.if_icmp .eq 5, 3) := by decide +kernel
theorem dL_law_2812 : decode cL_law 2812 = .ok (.iconst 0, 1) := by decide +kernel
theorem dL_law_2813 : decode cL_law 2813 = .ok (.ireturn, 1) := by decide +kernel
theorem dL_law_2814 : decode cL_law 2814 = .ok (.iload 6, 2) := by decide +kernel
theorem dL_law_2816 : decode cL_law 2816 = .ok (.ifCond .ne 15, 3) := by decide +kernel
theorem dL_law_2819 : decode cL_law 2819 = .ok (.aload_n 3, 1) := by decide +kernel
theorem dL_law_2820 : decode cL_law 2820 = .ok (.iconst 0, 1) := by decide +kernel
theorem dL_law_2821 : decode cL_law 2821 = .ok (.laload, 1) := by decide +kernel
theorem dL_law_2822 : decode cL_law 2822 = .ok (.iload 7, 2) := by decide +kernel
theorem dL_law_2824 : decode cL_law 2824 = .ok (.i2l, 1) := by decide +kernel
theorem dL_law_2825 : decode cL_law 2825 = .ok (.lcmp, 1) := by decide +kernel
theorem dL_law_2826 : decode cL_law 2826 = .ok (.ifCond .eq 5, 3) := by decide +kernel
theorem dL_law_2829 : decode cL_law 2829 = .ok (.iconst 0, 1) := by decide +kernel
theorem dL_law_2830 : decode cL_law 2830 = .ok (.ireturn, 1) := by decide +kernel
theorem dL_law_2831 : decode cL_law 2831 = .ok (.goto 3, 3) := by decide +kernel
theorem dL_law_2834 : decode cL_law 2834 = .ok (.iinc 5 3, 3) := by decide +kernel
theorem dL_law_2837 : decode cL_law 2837 = .ok (.goto (-2809), 3) := by decide +kernel
theorem dL_law_2840 : decode cL_law 2840 = .ok (.iconst 1, 1) := by decide +kernel
theorem dL_law_2841 : decode cL_law 2841 = .ok (.ireturn, 1) := by decide +kernel
