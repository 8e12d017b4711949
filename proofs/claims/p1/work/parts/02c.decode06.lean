theorem dL_law_3746 : decode cL_law 3746 = .ok (.iaload, 1) := by decide +kernel
theorem dL_law_3747 : decode cL_law 3747 = .ok (.aload_n 0, 1) := by decide +kernel
theorem dL_law_3748 : decode cL_law 3748 = .ok (.iload 4, 2) := by decide +kernel
theorem dL_law_3750 : decode cL_law 3750 = .ok (.iconst 2, 1) := by decide +kernel
theorem dL_law_3751 : decode cL_law 3751 = .ok (.iadd, 1) := by decide +kernel
theorem dL_law_3752 : decode cL_law 3752 = .ok (.iaload, 1) := by decide +kernel
theorem dL_law_3753 : decode cL_law 3753 = .ok (.invokevirtual 350, 3) := by decide +kernel
theorem dL_law_3756 : decode cL_law 3756 = .ok (.istore 6, 2) := by decide +kernel
theorem dL_law_3758 : decode cL_law 3758 = .ok (.aload_n 2, 1) := by decide +kernel
theorem dL_law_3759 : decode cL_law 3759 = .ok (.invokevirtual 192, 3) := by decide +kernel
theorem dL_law_3762 : decode cL_law 3762 = .ok (.iload 5, 2) := by decide +kernel
theorem dL_law_3764 : decode cL_law 3764 = .ok (.if_icmp .eq 5, 3) := by decide +kernel
theorem dL_law_3769 : decode cL_law 3769 = .ok (.iload 5, 2) := by decide +kernel
theorem dL_law_3771 : decode cL_law 3771 = .ok (.ifCond .ne 15, 3) := by decide +kernel
theorem dL_law_3786 : decode cL_law 3786 = .ok (.goto 127, 3) := by decide +kernel
theorem dL_law_3789 : decode cL_law 3789 = .ok (.aload_n 1, 1) := by decide +kernel
theorem dL_law_3790 : decode cL_law 3790 = .ok (.aload_n 0, 1) := by decide +kernel
theorem dL_law_3791 : decode cL_law 3791 = .ok (.iload 4, 2) := by decide +kernel
theorem dL_law_3793 : decode cL_law 3793 = .ok (.iconst 1, 1) := by decide +kernel
theorem dL_law_3794 : decode cL_law 3794 = .ok (.iadd, 1) := by decide +kernel
theorem dL_law_3795 : decode cL_law 3795 = .ok (.iaload, 1) := by decide +kernel
theorem dL_law_3796 : decode cL_law 3796 = .ok (.aload_n 3, 1) := by decide +kernel
theorem dL_law_3797 : decode cL_law 3797 = .ok (.invokestatic 351, 3) := by decide +kernel
theorem dL_law_3800 : decode cL_law 3800 = .ok (.istore 5, 2) := by decide +kernel
theorem dL_law_3802 : decode cL_law 3802 = .ok (.aload_n 2, 1) := by decide +kernel
theorem dL_law_3803 : decode cL_law 3803 = .ok (.aload_n 0, 1) := by decide +kernel
theorem dL_law_3804 : decode cL_law 3804 = .ok (.iload 4, 2) := by decide +kernel
theorem dL_law_3806 : decode cL_law 3806 = .ok (.iconst 1, 1) := by decide +kernel
theorem dL_law_3807 : decode cL_law 3807 = .ok (.iadd, 1) := by decide +kernel
theorem dL_law_3808 : decode cL_law 3808 = .ok (.iaload, 1) := by decide +kernel
theorem dL_law_3809 : decode cL_law 3809 = .ok (.invokevirtual 353, 3) := by decide +kernel
theorem dL_law_3812 : decode cL_law 3812 = .ok (.istore 6, 2) := by decide +kernel
theorem dL_law_3814 : decode cL_law 3814 = .ok (.aload_n 2, 1) := by decide +kernel
theorem dL_law_3815 : decode cL_law 3815 = .ok (.invokevirtual 192, 3) := by decide +kernel
theorem dL_law_3818 : decode cL_law 3818 = .ok (.iload 5, 2) := by decide +kernel
theorem dL_law_3820 : decode cL_law 3820 = .ok (.if_icmp .eq 5, 3) := by decide +kernel
theorem dL_law_3825 : decode cL_law 3825 = .ok (.iload 5, 2) := by decide +kernel
theorem dL_law_3827 : decode cL_law 3827 = .ok (.ifCond .ne 15, 3) := by decide +kernel
theorem dL_law_3842 : decode cL_law 3842 = .ok (.goto 71, 3) := by decide +kernel
theorem dL_law_3845 : decode cL_law 3845 = .ok (.aload_n 1, 1) := by decide +kernel
theorem dL_law_3846 : decode cL_law 3846 = .ok (.aload_n 3, 1) := by decide +kernel
theorem dL_law_3847 : decode cL_law 3847 = .ok (.invokestatic 354, 3) := by decide +kernel
theorem dL_law_3850 : decode cL_law 3850 = .ok (.istore 5, 2) := by decide +kernel
theorem dL_law_3852 : decode cL_law 3852 = .ok (.aload_n 2, 1) := by decide +kernel
theorem dL_law_3853 : decode cL_law 3853 = .ok (.invokevirtual 357, 3) := by decide +kernel
theorem dL_law_3856 : decode cL_law 3856 = .ok (.lstore 6, 2) := by decide +kernel
theorem dL_law_3858 : decode cL_law 3858 = .ok (.aload_n 2, 1) := by decide +kernel
theorem dL_law_3859 : decode cL_law 3859 = .ok (.invokevirtual 192, 3) := by decide +kernel
theorem dL_law_3862 : decode cL_law 3862 = .ok (.iload 5, 2) := by decide +kernel
theorem dL_law_3864 : decode cL_law 3864 = .ok (.if_icmp .eq 5, 3) := by decide +kernel
theorem dL_law_3869 : decode cL_law 3869 = .ok (.iload 5, 2) := by decide +kernel
theorem dL_law_3871 : decode cL_law 3871 = .ok (.ifCond .ne 14, 3) := by decide +kernel
theorem dL_law_3885 : decode cL_law 3885 = .ok (.goto 28, 3) := by decide +kernel
theorem dL_law_3888 : decode cL_law 3888 = .ok (.aload_n 1, 1) := by decide +kernel
theorem dL_law_3889 : decode cL_law 3889 = .ok (.aload_n 0, 1) := by decide +kernel
theorem dL_law_3890 : decode cL_law 3890 = .ok (.iload 4, 2) := by decide +kernel
theorem dL_law_3892 : decode cL_law 3892 = .ok (.iconst 1, 1) := by decide +kernel
theorem dL_law_3893 : decode cL_law 3893 = .ok (.iadd, 1) := by decide +kernel
theorem dL_law_3894 : decode cL_law 3894 = .ok (.iaload, 1) := by decide +kernel
theorem dL_law_3895 : decode cL_law 3895 = .ok (.invokevirtual 358, 3) := by decide +kernel
theorem dL_law_3898 : decode cL_law 3898 = .ok (.aload_n 2, 1) := by decide +kernel
theorem dL_law_3899 : decode cL_law 3899 = .ok (.aload_n 0, 1) := by decide +kernel
theorem dL_law_3900 : decode cL_law 3900 = .ok (.iload 4, 2) := by decide +kernel
theorem dL_law_3902 : decode cL_law 3902 = .ok (.iconst 1, 1) := by decide +kernel
theorem dL_law_3903 : decode cL_law 3903 = .ok (.iadd, 1) := by decide +kernel
theorem dL_law_3904 : decode cL_law 3904 = .ok (.iaload, 1) := by decide +kernel
theorem dL_law_3905 : decode cL_law 3905 = .ok (.invokevirtual 361, 3) := by decide +kernel
theorem dL_law_3908 : decode cL_law 3908 = .ok (.if_icmp .eq 5, 3) := by decide +kernel
theorem dL_law_3913 : decode cL_law 3913 = .ok (.iinc 4 6, 3) := by decide +kernel
theorem dL_law_3916 : decode cL_law 3916 = .ok (.goto (-3893), 3) := by decide +kernel
theorem dL_law_3919 : decode cL_law 3919 = .ok (.iconst 1, 1) := by decide +kernel
theorem dL_law_3920 : decode cL_law 3920 = .ok (.ireturn, 1) := by decide +kernel
