theorem dL_law_2519 : decode cL_law 2519 = .ok (.invokestatic 291, 3) := by decide +kernel
theorem dL_law_2522 : decode cL_law 2522 = .ok (.istore 5, 2) := by decide +kernel
theorem dL_law_2524 : decode cL_law 2524 = .ok (.aload_n 2, 1) := by decide +kernel
theorem dL_law_2525 : decode cL_law 2525 = .ok (.aload_n 0, 1) := by decide +kernel
theorem dL_law_2526 : decode cL_law 2526 = .ok (.iload 4, 2) := by decide +kernel
theorem dL_law_2528 : decode cL_law 2528 = .ok (.iconst 1, 1) := by decide +kernel
theorem dL_law_2529 : decode cL_law 2529 = .ok (.iadd, 1) := by decide +kernel
theorem dL_law_2530 : decode cL_law 2530 = .ok (.iaload, 1) := by decide +kernel
theorem dL_law_2531 : decode cL_law 2531 = .ok (.aload_n 0, 1) := by decide +kernel
theorem dL_law_2532 : decode cL_law 2532 = .ok (.iload 4, 2) := by decide +kernel
theorem dL_law_2534 : decode cL_law 2534 = .ok (.iconst 2, 1) := by decide +kernel
theorem dL_law_2535 : decode cL_law 2535 = .ok (.iadd, 1) := by decide +kernel
theorem dL_law_2536 : decode cL_law 2536 = .ok (.iaload, 1) := by decide +kernel
theorem dL_law_2537 : decode cL_law 2537 = .ok (.invokevirtual 293, 3) := by decide +kernel
theorem dL_law_2540 : decode cL_law 2540 = .ok (.istore 6, 2) := by decide +kernel
theorem dL_law_2542 : decode cL_law 2542 = .ok (.aload_n 2, 1) := by decide +kernel
theorem dL_law_2543 : decode cL_law 2543 = .ok (.invokevirtual 192, 3) := by decide +kernel
theorem dL_law_2546 : decode cL_law 2546 = .ok (.iload 5, 2) := by decide +kernel
theorem dL_law_2548 : decode cL_law 2548 = .ok (.if_icmp .eq 5, 3) := by decide +kernel
theorem dL_law_2553 : decode cL_law 2553 = .ok (.iload 5, 2) := by decide +kernel
theorem dL_law_2555 : decode cL_law 2555 = .ok (.ifCond .ne 15, 3) := by decide +kernel
theorem dL_law_2570 : decode cL_law 2570 = .ok (.goto 1343, 3) := by decide +kernel
theorem dL_law_2573 : decode cL_law 2573 = .ok (.aload_n 1, 1) := by decide +kernel
theorem dL_law_2574 : decode cL_law 2574 = .ok (.aload_n 0, 1) := by decide +kernel
theorem dL_law_2575 : decode cL_law 2575 = .ok (.iload 4, 2) := by decide +kernel
theorem dL_law_2577 : decode cL_law 2577 = .ok (.iconst 1, 1) := by decide +kernel
theorem dL_law_2578 : decode cL_law 2578 = .ok (.iadd, 1) := by decide +kernel
theorem dL_law_2579 : decode cL_law 2579 = .ok (.iaload, 1) := by decide +kernel
theorem dL_law_2580 : decode cL_law 2580 = .ok (.aload_n 0, 1) := by decide +kernel
theorem dL_law_2581 : decode cL_law 2581 = .ok (.iload 4, 2) := by decide +kernel
theorem dL_law_2583 : decode cL_law 2583 = .ok (.iconst 2, 1) := by decide +kernel
theorem dL_law_2584 : decode cL_law 2584 = .ok (.iadd, 1) := by decide +kernel
theorem dL_law_2585 : decode cL_law 2585 = .ok (.iaload, 1) := by decide +kernel
theorem dL_law_2586 : decode cL_law 2586 = .ok (.aload_n 3, 1) := by decide +kernel
theorem dL_law_2587 : decode cL_law 2587 = .ok (.invokestatic 294, 3) := by decide +kernel
theorem dL_law_2590 : decode cL_law 2590 = .ok (.istore 5, 2) := by decide +kernel
theorem dL_law_2592 : decode cL_law 2592 = .ok (.aload_n 2, 1) := by decide +kernel
theorem dL_law_2593 : decode cL_law 2593 = .ok (.aload_n 0, 1) := by decide +kernel
theorem dL_law_2594 : decode cL_law 2594 = .ok (.iload 4, 2) := by decide +kernel
theorem dL_law_2596 : decode cL_law 2596 = .ok (.iconst 1, 1) := by decide +kernel
theorem dL_law_2597 : decode cL_law 2597 = .ok (.iadd, 1) := by decide +kernel
theorem dL_law_2598 : decode cL_law 2598 = .ok (.iaload, 1) := by decide +kernel
theorem dL_law_2599 : decode cL_law 2599 = .ok (.aload_n 0, 1) := by decide +kernel
theorem dL_law_2600 : decode cL_law 2600 = .ok (.iload 4, 2) := by decide +kernel
theorem dL_law_2602 : decode cL_law 2602 = .ok (.iconst 2, 1) := by decide +kernel
theorem dL_law_2603 : decode cL_law 2603 = .ok (.iadd, 1) := by decide +kernel
theorem dL_law_2604 : decode cL_law 2604 = .ok (.iaload, 1) := by decide +kernel
theorem dL_law_2605 : decode cL_law 2605 = .ok (.invokevirtual 296, 3) := by decide +kernel
theorem dL_law_2608 : decode cL_law 2608 = .ok (.istore 6, 2) := by decide +kernel
theorem dL_law_2610 : decode cL_law 2610 = .ok (.aload_n 2, 1) := by decide +kernel
theorem dL_law_2611 : decode cL_law 2611 = .ok (.invokevirtual 192, 3) := by decide +kernel
theorem dL_law_2614 : decode cL_law 2614 = .ok (.iload 5, 2) := by decide +kernel
theorem dL_law_2616 : decode cL_law 2616 = .ok (.if_icmp .eq 5, 3) := by decide +kernel
theorem dL_law_2621 : decode cL_law 2621 = .ok (.iload 5, 2) := by decide +kernel
theorem dL_law_2623 : decode cL_law 2623 = .ok (.ifCond .ne 15, 3) := by decide +kernel
theorem dL_law_2638 : decode cL_law 2638 = .ok (.goto 1275, 3) := by decide +kernel
theorem dL_law_2641 : decode cL_law 2641 = .ok (.aload_n 1, 1) := by decide +kernel
theorem dL_law_2642 : decode cL_law 2642 = .ok (.aload_n 0, 1) := by decide +kernel
theorem dL_law_2643 : decode cL_law 2643 = .ok (.iload 4, 2) := by decide +kernel
theorem dL_law_2645 : decode cL_law 2645 = .ok (.iconst 1, 1) := by decide +kernel
theorem dL_law_2646 : decode cL_law 2646 = .ok (.iadd, 1) := by decide +kernel
theorem dL_law_2647 : decode cL_law 2647 = .ok (.iaload, 1) := by decide +kernel
theorem dL_law_2648 : decode cL_law 2648 = .ok (.aload_n 3, 1) := by decide +kernel
theorem dL_law_2649 : decode cL_law 2649 = .ok (.invokestatic 297, 3) := by decide +kernel
theorem dL_law_2652 : decode cL_law 2652 = .ok (.istore 5, 2) := by decide +kernel
theorem dL_law_2654 : decode cL_law 2654 = .ok (.aload_n 2, 1) := by decide +kernel
theorem dL_law_2655 : decode cL_law 2655 = .ok (.aload_n 0, 1) := by decide +kernel
theorem dL_law_2656 : decode cL_law 2656 = .ok (.iload 4, 2) := by decide +kernel
theorem dL_law_2658 : decode cL_law 2658 = .ok (.iconst 1, 1) := by decide +kernel
theorem dL_law_2659 : decode cL_law 2659 = .ok (.iadd, 1) := by decide +kernel
theorem dL_law_2660 : decode cL_law 2660 = .ok (.iaload, 1) := by decide +kernel
theorem dL_law_2661 : decode cL_law 2661 = .ok (.invokevirtual 299, 3) := by decide +kernel
theorem dL_law_2664 : decode cL_law 2664 = .ok (.istore 6, 2) := by decide +kernel
theorem dL_law_2666 : decode cL_law 2666 = .ok (.aload_n 2, 1) := by decide +kernel
theorem dL_law_2667 : decode cL_law 2667 = .ok (.invokevirtual 192, 3) := by decide +kernel
theorem dL_law_2670 : decode cL_law 2670 = .ok (.iload 5, 2) := by decide +kernel
theorem dL_law_2672 : decode cL_law 2672 = .ok (.if_icmp .eq 5, 3) := by decide +kernel
theorem dL_law_2677 : decode cL_law 2677 = .ok (.iload 5, 2) := by decide +kernel
theorem dL_law_2679 : decode cL_law 2679 = .ok (.ifCond .ne 15, 3) := by decide +kernel
theorem dL_law_2694 : decode cL_law 2694 = .ok (.goto 1219, 3) := by decide +kernel
theorem dL_law_2697 : decode cL_law 2697 = .ok (.aload_n 1, 1) := by decide +kernel
theorem dL_law_2698 : decode cL_law 2698 = .ok (.aload_n 0, 1) := by decide +kernel
theorem dL_law_2699 : decode cL_law 2699 = .ok (.iload 4, 2) := by decide +kernel
theorem dL_law_2701 : decode cL_law 2701 = .ok (.iconst 1, 1) := by decide +kernel
theorem dL_law_2702 : decode cL_law 2702 = .ok (.iadd, 1) := by decide +kernel
theorem dL_law_2703 : decode cL_law 2703 = .ok (.iaload, 1) := by decide +kernel
theorem dL_law_2704 : decode cL_law 2704 = .ok (.aload_n 0, 1) := by decide +kernel
theorem dL_law_2705 : decode cL_law 2705 = .ok (.iload 4, 2) := by decide +kernel
theorem dL_law_2707 : decode cL_law 2707 = .ok (.iconst 2, 1) := by decide +kernel
theorem dL_law_2708 : decode cL_law 2708 = .ok (.iadd, 1) := by decide +kernel
theorem dL_law_2709 : decode cL_law 2709 = .ok (.iaload, 1) := by decide +kernel
theorem dL_law_2710 : decode cL_law 2710 = .ok (.aload_n 0, 1) := by decide +kernel
theorem dL_law_2711 : decode cL_law 2711 = .ok (.iload 4, 2) := by decide +kernel
theorem dL_law_2713 : decode cL_law 2713 = .ok (.iconst 3, 1) := by decide +kernel
theorem dL_law_2714 : decode cL_law 2714 = .ok (.iadd, 1) := by decide +kernel
theorem dL_law_2715 : decode cL_law 2715 = .ok (.iaload, 1) := by decide +kernel
theorem dL_law_2716 : decode cL_law 2716 = .ok (.aload_n 3, 1) := by decide +kernel
theorem dL_law_2717 : decode cL_law 2717 = .ok (.invokestatic 300, 3) := by decide +kernel
theorem dL_law_2720 : decode cL_law 2720 = .ok (.istore 5, 2) := by decide +kernel
theorem dL_law_2722 : decode cL_law 2722 = .ok (.aload_n 2, 1) := by decide +kernel
theorem dL_law_2723 : decode cL_law 2723 = .ok (.aload_n 0, 1) := by decide +kernel
theorem dL_law_2724 : decode cL_law 2724 = .ok (.iload 4, 2) := by decide +kernel
theorem dL_law_2726 : decode cL_law 2726 = .ok (.iconst 1, 1) := by decide +kernel
theorem dL_law_2727 : decode cL_law 2727 = .ok (.iadd, 1) := by decide +kernel
theorem dL_law_2728 : decode cL_law 2728 = .ok (.iaload, 1) := by decide +kernel
theorem dL_law_2729 : decode cL_law 2729 = .ok (.aload_n 0, 1) := by decide +kernel
theorem dL_law_2730 : decode cL_law 2730 = .ok (.iload 4, 2) := by decide +kernel
theorem dL_law_2732 : decode cL_law 2732 = .ok (.iconst 2, 1) := by decide +kernel
theorem dL_law_2733 : decode cL_law 2733 = .ok (.iadd, 1) := by decide +kernel
theorem dL_law_2734 : decode cL_law 2734 = .ok (.iaload, 1) := by decide +kernel
theorem dL_law_2735 : decode cL_law 2735 = .ok (.aload_n 0, 1) := by decide +kernel
theorem dL_law_2736 : decode cL_law 2736 = .ok (.iload 4, 2) := by decide +kernel
theorem dL_law_2738 : decode cL_law 2738 = .ok (.iconst 3, 1) := by decide +kernel
theorem dL_law_2739 : decode cL_law 2739 = .ok (.iadd, 1) := by decide +kernel
theorem dL_law_2740 : decode cL_law 2740 = .ok (.iaload, 1) := by decide +kernel
theorem dL_law_2741 : decode cL_law 2741 = .ok (.invokevirtual 302, 3) := by decide +kernel
theorem dL_law_2744 : decode cL_law 2744 = .ok (.istore 6, 2) := by decide +kernel
theorem dL_law_2746 : decode cL_law 2746 = .ok (.aload_n 2, 1) := by decide +kernel
theorem dL_law_2747 : decode cL_law 2747 = .ok (.invokevirtual 192, 3) := by decide +kernel
theorem dL_law_2750 : decode cL_law 2750 = .ok (.iload 5, 2) := by decide +kernel
theorem dL_law_2752 : decode cL_law 2752 = .ok (.if_icmp .eq 5, 3) := by decide +kernel
theorem dL_law_2757 : decode cL_law 2757 = .ok (.iload 5, 2) := by decide +kernel
theorem dL_law_2759 : decode cL_law 2759 = .ok (.ifCond .ne 15, 3) := by decide +kernel
theorem dL_law_2774 : decode cL_law 2774 = .ok (.goto 1139, 3) := by decide +kernel
theorem dL_law_2777 : decode cL_law 2777 = .ok (.aload_n 1, 1) := by decide +kernel
theorem dL_law_2778 : decode cL_law 2778 = .ok (.aload_n 0, 1) := by decide +kernel
theorem dL_law_2779 : decode cL_law 2779 = .ok (.iload 4, 2) := by decide +kernel
theorem dL_law_2781 : decode cL_law 2781 = .ok (.iconst 1, 1) := by decide +kernel
theorem dL_law_2782 : decode cL_law 2782 = .ok (.iadd, 1) := by decide +kernel
theorem dL_law_2783 : decode cL_law 2783 = .ok (.iaload, 1) := by decide +kernel
theorem dL_law_2784 : decode cL_law 2784 = .ok (.aload_n 0, 1) := by decide +kernel
theorem dL_law_2785 : decode cL_law 2785 = .ok (.iload 4, 2) := by decide +kernel
theorem dL_law_2787 : decode cL_law 2787 = .ok (.iconst 2, 1) := by decide +kernel
theorem dL_law_2788 : decode cL_law 2788 = .ok (.iadd, 1) := by decide +kernel
theorem dL_law_2789 : decode cL_law 2789 = .ok (.iaload, 1) := by decide +kernel
theorem dL_law_2790 : decode cL_law 2790 = .ok (.aload_n 0, 1) := by decide +kernel
theorem dL_law_2791 : decode cL_law 2791 = .ok (.iload 4, 2) := by decide +kernel
theorem dL_law_2793 : decode cL_law 2793 = .ok (.iconst 3, 1) := by decide +kernel
theorem dL_law_2794 : decode cL_law 2794 = .ok (.iadd, 1) := by decide +kernel
theorem dL_law_2795 : decode cL_law 2795 = .ok (.iaload, 1) := by decide +kernel
theorem dL_law_2796 : decode cL_law 2796 = .ok (.aload_n 3, 1) := by decide +kernel
theorem dL_law_2797 : decode cL_law 2797 = .ok (.invokestatic 303, 3) := by decide +kernel
theorem dL_law_2800 : decode cL_law 2800 = .ok (.istore 5, 2) := by decide +kernel
theorem dL_law_2802 : decode cL_law 2802 = .ok (.aload_n 2, 1) := by decide +kernel
theorem dL_law_2803 : decode cL_law 2803 = .ok (.aload_n 0, 1) := by decide +kernel
theorem dL_law_2804 : decode cL_law 2804 = .ok (.iload 4, 2) := by decide +kernel
theorem dL_law_2806 : decode cL_law 2806 = .ok (.iconst 1, 1) := by decide +kernel
theorem dL_law_2807 : decode cL_law 2807 = .ok (.iadd, 1) := by decide +kernel
theorem dL_law_2808 : decode cL_law 2808 = .ok (.iaload, 1) := by decide +kernel
theorem dL_law_2809 : decode cL_law 2809 = .ok (.aload_n 0, 1) := by decide +kernel
theorem dL_law_2810 : decode cL_law 2810 = .ok (.iload 4, 2) := by decide +kernel
theorem dL_law_2812 : decode cL_law 2812 = .ok (.iconst 2, 1) := by decide +kernel
theorem dL_law_2813 : decode cL_law 2813 = .ok (.iadd, 1) := by decide +kernel
theorem dL_law_2814 : decode cL_law 2814 = .ok (.iaload, 1) := by decide +kernel
theorem dL_law_2815 : decode cL_law 2815 = .ok (.aload_n 0, 1) := by decide +kernel
theorem dL_law_2816 : decode cL_law 2816 = .ok (.iload 4, 2) := by decide +kernel
theorem dL_law_2818 : decode cL_law 2818 = .ok (.iconst 3, 1) := by decide +kernel
theorem dL_law_2819 : decode cL_law 2819 = .ok (.iadd, 1) := by decide +kernel
theorem dL_law_2820 : decode cL_law 2820 = .ok (.iaload, 1) := by decide +kernel
theorem dL_law_2821 : decode cL_law 2821 = .ok (.invokevirtual 305, 3) := by decide +kernel
theorem dL_law_2824 : decode cL_law 2824 = .ok (.istore 6, 2) := by decide +kernel
theorem dL_law_2826 : decode cL_law 2826 = .ok (.aload_n 2, 1) := by decide +kernel
theorem dL_law_2827 : decode cL_law 2827 = .ok (.invokevirtual 192, 3) := by decide +kernel
theorem dL_law_2830 : decode cL_law 2830 = .ok (.iload 5, 2) := by decide +kernel
theorem dL_law_2832 : decode cL_law 2832 = .ok (.if_icmp .eq 5, 3) := by decide +kernel
theorem dL_law_2837 : decode cL_law 2837 = .ok (.iload 5, 2) := by decide +kernel
theorem dL_law_2839 : decode cL_law 2839 = .ok (.ifCond .ne 15, 3) := by decide +kernel
theorem dL_law_2854 : decode cL_law 2854 = .ok (.goto 1059, 3) := by decide +kernel
theorem dL_law_2857 : decode cL_law 2857 = .ok (.aload_n 1, 1) := by decide +kernel
theorem dL_law_2858 : decode cL_law 2858 = .ok (.aload_n 0, 1) := by decide +kernel
theorem dL_law_2859 : decode cL_law 2859 = .ok (.iload 4, 2) := by decide +kernel
theorem dL_law_2861 : decode cL_law 2861 = .ok (.iconst 1, 1) := by decide +kernel
theorem dL_law_2862 : decode cL_law 2862 = .ok (.iadd, 1) := by decide +kernel
theorem dL_law_2863 : decode cL_law 2863 = .ok (.iaload, 1) := by decide +kernel
theorem dL_law_2864 : decode cL_law 2864 = .ok (.aload_n 0, 1) := by decide +kernel
theorem dL_law_2865 : decode cL_law 2865 = .ok (.iload 4, 2) := by decide +kernel
theorem dL_law_2867 : decode cL_law 2867 = .ok (.iconst 2, 1) := by decide +kernel
theorem dL_law_2868 : decode cL_law 2868 = .ok (.iadd, 1) := by decide +kernel
theorem dL_law_2869 : decode cL_law 2869 = .ok (.iaload, 1) := by decide +kernel
theorem dL_law_2870 : decode cL_law 2870 = .ok (.aload_n 0, 1) := by decide +kernel
theorem dL_law_2871 : decode cL_law 2871 = .ok (.iload 4, 2) := by decide +kernel
theorem dL_law_2873 : decode cL_law 2873 = .ok (.iconst 3, 1) := by decide +kernel
theorem dL_law_2874 : decode cL_law 2874 = .ok (.iadd, 1) := by decide +kernel
theorem dL_law_2875 : decode cL_law 2875 = .ok (.iaload, 1) := by decide +kernel
theorem dL_law_2876 : decode cL_law 2876 = .ok (.aload_n 3, 1) := by decide +kernel
theorem dL_law_2877 : decode cL_law 2877 = .ok (.invokestatic 306, 3) := by decide +kernel
theorem dL_law_2880 : decode cL_law 2880 = .ok (.istore 5, 2) := by decide +kernel
theorem dL_law_2882 : decode cL_law 2882 = .ok (.aload_n 2, 1) := by decide +kernel
theorem dL_law_2883 : decode cL_law 2883 = .ok (.aload_n 0, 1) := by decide +kernel
theorem dL_law_2884 : decode cL_law 2884 = .ok (.iload 4, 2) := by decide +kernel
theorem dL_law_2886 : decode cL_law 2886 = .ok (.iconst 1, 1) := by decide +kernel
theorem dL_law_2887 : decode cL_law 2887 = .ok (.iadd, 1) := by decide +kernel
theorem dL_law_2888 : decode cL_law 2888 = .ok (.iaload, 1) := by decide +kernel
theorem dL_law_2889 : decode cL_law 2889 = .ok (.aload_n 0, 1) := by decide +kernel
theorem dL_law_2890 : decode cL_law 2890 = .ok (.iload 4, 2) := by decide +kernel
theorem dL_law_2892 : decode cL_law 2892 = .ok (.iconst 2, 1) := by decide +kernel
theorem dL_law_2893 : decode cL_law 2893 = .ok (.iadd, 1) := by decide +kernel
theorem dL_law_2894 : decode cL_law 2894 = .ok (.iaload, 1) := by decide +kernel
theorem dL_law_2895 : decode cL_law 2895 = .ok (.aload_n 0, 1) := by decide +kernel
theorem dL_law_2896 : decode cL_law 2896 = .ok (.iload 4, 2) := by decide +kernel
theorem dL_law_2898 : decode cL_law 2898 = .ok (.iconst 3, 1) := by decide +kernel
theorem dL_law_2899 : decode cL_law 2899 = .ok (.iadd, 1) := by decide +kernel
theorem dL_law_2900 : decode cL_law 2900 = .ok (.iaload, 1) := by decide +kernel
theorem dL_law_2901 : decode cL_law 2901 = .ok (.invokevirtual 308, 3) := by decide +kernel
theorem dL_law_2904 : decode cL_law 2904 = .ok (.istore 6, 2) := by decide +kernel
theorem dL_law_2906 : decode cL_law 2906 = .ok (.aload_n 2, 1) := by decide +kernel
theorem dL_law_2907 : decode cL_law 2907 = .ok (.invokevirtual 192, 3) := by decide +kernel
theorem dL_law_2910 : decode cL_law 2910 = .ok (.iload 5, 2) := by decide +kernel
theorem dL_law_2912 : decode cL_law 2912 = .ok (.if_icmp .eq 5, 3) := by decide +kernel
theorem dL_law_2917 : decode cL_law 2917 = .ok (.iload 5, 2) := by decide +kernel
theorem dL_law_2919 : decode cL_law 2919 = .ok (.ifCond .ne 15, 3) := by decide +kernel
theorem dL_law_2934 : decode cL_law 2934 = .ok (.goto 979, 3) := by decide +kernel
theorem dL_law_2937 : decode cL_law 2937 = .ok (.aload_n 1, 1) := by decide +kernel
theorem dL_law_2938 : decode cL_law 2938 = .ok (.aload_n 0, 1) := by decide +kernel
theorem dL_law_2939 : decode cL_law 2939 = .ok (.iload 4, 2) := by decide +kernel
theorem dL_law_2941 : decode cL_law 2941 = .ok (.iconst 1, 1) := by decide +kernel
theorem dL_law_2942 : decode cL_law 2942 = .ok (.iadd, 1) := by decide +kernel
theorem dL_law_2943 : decode cL_law 2943 = .ok (.iaload, 1) := by decide +kernel
theorem dL_law_2944 : decode cL_law 2944 = .ok (.aload_n 3, 1) := by decide +kernel
theorem dL_law_2945 : decode cL_law 2945 = .ok (.invokestatic 309, 3) := by decide +kernel
theorem dL_law_2948 : decode cL_law 2948 = .ok (.istore 5, 2) := by decide +kernel
theorem dL_law_2950 : decode cL_law 2950 = .ok (.aload_n 2, 1) := by decide +kernel
theorem dL_law_2951 : decode cL_law 2951 = .ok (.aload_n 0, 1) := by decide +kernel
theorem dL_law_2952 : decode cL_law 2952 = .ok (.iload 4, 2) := by decide +kernel
theorem dL_law_2954 : decode cL_law 2954 = .ok (.iconst 1, 1) := by decide +kernel
theorem dL_law_2955 : decode cL_law 2955 = .ok (.iadd, 1) := by decide +kernel
theorem dL_law_2956 : decode cL_law 2956 = .ok (.iaload, 1) := by decide +kernel
theorem dL_law_2957 : decode cL_law 2957 = .ok (.invokevirtual 311, 3) := by decide +kernel
theorem dL_law_2960 : decode cL_law 2960 = .ok (.istore 6, 2) := by decide +kernel
theorem dL_law_2962 : decode cL_law 2962 = .ok (.aload_n 2, 1) := by decide +kernel
theorem dL_law_2963 : decode cL_law 2963 = .ok (.invokevirtual 192, 3) := by decide +kernel
theorem dL_law_2966 : decode cL_law 2966 = .ok (.iload 5, 2) := by decide +kernel
theorem dL_law_2968 : decode cL_law 2968 = .ok (.if_icmp .eq 5, 3) := by decide +kernel
theorem dL_law_2973 : decode cL_law 2973 = .ok (.iload 5, 2) := by decide +kernel
theorem dL_law_2975 : decode cL_law 2975 = .ok (.ifCond .ne 15, 3) := by decide +kernel
theorem dL_law_2990 : decode cL_law 2990 = .ok (.goto 923, 3) := by decide +kernel
theorem dL_law_2993 : decode cL_law 2993 = .ok (.aload_n 1, 1) := by decide +kernel
theorem dL_law_2994 : decode cL_law 2994 = .ok (.aload_n 0, 1) := by decide +kernel
theorem dL_law_2995 : decode cL_law 2995 = .ok (.iload 4, 2) := by decide +kernel
theorem dL_law_2997 : decode cL_law 2997 = .ok (.iconst 1, 1) := by decide +kernel
theorem dL_law_2998 : decode cL_law 2998 = .ok (.iadd, 1) := by decide +kernel
theorem dL_law_2999 : decode cL_law 2999 = .ok (.iaload, 1) := by decide +kernel
theorem dL_law_3000 : decode cL_law 3000 = .ok (.aload_n 3, 1) := by decide +kernel
theorem dL_law_3001 : decode cL_law 3001 = .ok (.invokestatic 312, 3) := by decide +kernel
theorem dL_law_3004 : decode cL_law 3004 = .ok (.istore 5, 2) := by decide +kernel
theorem dL_law_3006 : decode cL_law 3006 = .ok (.aload_n 2, 1) := by decide +kernel
theorem dL_law_3007 : decode cL_law 3007 = .ok (.aload_n 0, 1) := by decide +kernel
theorem dL_law_3008 : decode cL_law 3008 = .ok (.iload 4, 2) := by decide +kernel
theorem dL_law_3010 : decode cL_law 3010 = .ok (.iconst 1, 1) := by decide +kernel
theorem dL_law_3011 : decode cL_law 3011 = .ok (.iadd, 1) := by decide +kernel
theorem dL_law_3012 : decode cL_law 3012 = .ok (.iaload, 1) := by decide +kernel
theorem dL_law_3013 : decode cL_law 3013 = .ok (.invokevirtual 314, 3) := by decide +kernel
theorem dL_law_3016 : decode cL_law 3016 = .ok (.istore 6, 2) := by decide +kernel
theorem dL_law_3018 : decode cL_law 3018 = .ok (.aload_n 2, 1) := by decide +kernel
theorem dL_law_3019 : decode cL_law 3019 = .ok (.invokevirtual 192, 3) := by decide +kernel
theorem dL_law_3022 : decode cL_law 3022 = .ok (.iload 5, 2) := by decide +kernel
theorem dL_law_3024 : decode cL_law 3024 = .ok (.if_icmp .eq 5, 3) := by decide +kernel
theorem dL_law_3029 : decode cL_law 3029 = .ok (.iload 5, 2) := by decide +kernel
theorem dL_law_3031 : decode cL_law 3031 = .ok (.ifCond .ne 15, 3) := by decide +kernel
theorem dL_law_3046 : decode cL_law 3046 = .ok (.goto 867, 3) := by decide +kernel
theorem dL_law_3049 : decode cL_law 3049 = .ok (.aload_n 1, 1) := by decide +kernel
theorem dL_law_3050 : decode cL_law 3050 = .ok (.aload_n 0, 1) := by decide +kernel
theorem dL_law_3051 : decode cL_law 3051 = .ok (.iload 4, 2) := by decide +kernel
theorem dL_law_3053 : decode cL_law 3053 = .ok (.iconst 1, 1) := by decide +kernel
theorem dL_law_3054 : decode cL_law 3054 = .ok (.iadd, 1) := by decide +kernel
theorem dL_law_3055 : decode cL_law 3055 = .ok (.iaload, 1) := by decide +kernel
theorem dL_law_3056 : decode cL_law 3056 = .ok (.aload_n 3, 1) := by decide +kernel
theorem dL_law_3057 : decode cL_law 3057 = .ok (.invokestatic 315, 3) := by decide +kernel
theorem dL_law_3060 : decode cL_law 3060 = .ok (.istore 5, 2) := by decide +kernel
theorem dL_law_3062 : decode cL_law 3062 = .ok (.aload_n 2, 1) := by decide +kernel
theorem dL_law_3063 : decode cL_law 3063 = .ok (.aload_n 0, 1) := by decide +kernel
theorem dL_law_3064 : decode cL_law 3064 = .ok (.iload 4, 2) := by decide +kernel
theorem dL_law_3066 : decode cL_law 3066 = .ok (.iconst 1, 1) := by decide +kernel
theorem dL_law_3067 : decode cL_law 3067 = .ok (.iadd, 1) := by decide +kernel
theorem dL_law_3068 : decode cL_law 3068 = .ok (.iaload, 1) := by decide +kernel
theorem dL_law_3069 : decode cL_law 3069 = .ok (.invokevirtual 317, 3) := by decide +kernel
theorem dL_law_3072 : decode cL_law 3072 = .ok (.istore 6, 2) := by decide +kernel
theorem dL_law_3074 : decode cL_law 3074 = .ok (.aload_n 2, 1) := by decide +kernel
theorem dL_law_3075 : decode cL_law 3075 = .ok (.invokevirtual 192, 3) := by decide +kernel
theorem dL_law_3078 : decode cL_law 3078 = .ok (.iload 5, 2) := by decide +kernel
theorem dL_law_3080 : decode cL_law 3080 = .ok (.if_icmp .eq 5, 3) := by decide +kernel
theorem dL_law_3085 : decode cL_law 3085 = .ok (.iload 5, 2) := by decide +kernel
theorem dL_law_3087 : decode cL_law 3087 = .ok (.ifCond .ne 15, 3) := by decide +kernel
theorem dL_law_3102 : decode cL_law 3102 = .ok (.goto 811, 3) := by decide +kernel
theorem dL_law_3105 : decode cL_law 3105 = .ok (.aload_n 1, 1) := by decide +kernel
theorem dL_law_3106 : decode cL_law 3106 = .ok (.aload_n 0, 1) := by decide +kernel
theorem dL_law_3107 : decode cL_law 3107 = .ok (.iload 4, 2) := by decide +kernel
theorem dL_law_3109 : decode cL_law 3109 = .ok (.iconst 1, 1) := by decide +kernel
theorem dL_law_3110 : decode cL_law 3110 = .ok (.iadd, 1) := by decide +kernel
theorem dL_law_3111 : decode cL_law 3111 = .ok (.iaload, 1) := by decide +kernel
theorem dL_law_3112 : decode cL_law 3112 = .ok (.aload_n 3, 1) := by decide +kernel
theorem dL_law_3113 : decode cL_law 3113 = .ok (.invokestatic 318, 3) := by decide +kernel
theorem dL_law_3116 : decode cL_law 3116 = .ok (.istore 5, 2) := by decide +kernel
theorem dL_law_3118 : decode cL_law 3118 = .ok (.aload_n 2, 1) := by decide +kernel
theorem dL_law_3119 : decode cL_law 3119 = .ok (.aload_n 0, 1) := by decide +kernel
theorem dL_law_3120 : decode cL_law 3120 = .ok (.iload 4, 2) := by decide +kernel
theorem dL_law_3122 : decode cL_law 3122 = .ok (.iconst 1, 1) := by decide +kernel
theorem dL_law_3123 : decode cL_law 3123 = .ok (.iadd, 1) := by decide +kernel
theorem dL_law_3124 : decode cL_law 3124 = .ok (.iaload, 1) := by decide +kernel
theorem dL_law_3125 : decode cL_law 3125 = .ok (.invokevirtual 320, 3) := by decide +kernel
