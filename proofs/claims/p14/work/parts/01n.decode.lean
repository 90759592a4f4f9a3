theorem d_La_law_754 : decode b_La_law 754 = .ok (.iload 4, 2) := by decide +kernel
theorem d_La_law_756 : decode b_La_law 756 = .ok (.iconst 2, 1) := by decide +kernel
theorem d_La_law_757 : decode b_La_law 757 = .ok (.iadd, 1) := by decide +kernel
theorem d_La_law_758 : decode b_La_law 758 = .ok (.iaload, 1) := by decide +kernel
theorem d_La_law_759 : decode b_La_law 759 = .ok (.aload_n 0, 1) := by decide +kernel
theorem d_La_law_760 : decode b_La_law 760 = .ok (.iload 4, 2) := by decide +kernel
theorem d_La_law_762 : decode b_La_law 762 = .ok (.iconst 3, 1) := by decide +kernel
theorem d_La_law_763 : decode b_La_law 763 = .ok (.iadd, 1) := by decide +kernel
theorem d_La_law_764 : decode b_La_law 764 = .ok (.iaload, 1) := by decide +kernel
theorem d_La_law_765 : decode b_La_law 765 = .ok (.aload_n 3, 1) := by decide +kernel
theorem d_La_law_766 : decode b_La_law 766 = .ok (.invokestatic 115, 3) := by decide +kernel
theorem d_La_law_769 : decode b_La_law 769 = .ok (.istore 5, 2) := by decide +kernel
theorem d_La_law_771 : decode b_La_law 771 = .ok (.aload_n 2, 1) := by decide +kernel
theorem d_La_law_772 : decode b_La_law 772 = .ok (.aload_n 0, 1) := by decide +kernel
theorem d_La_law_773 : decode b_La_law 773 = .ok (.iload 4, 2) := by decide +kernel
theorem d_La_law_775 : decode b_La_law 775 = .ok (.iconst 1, 1) := by decide +kernel
theorem d_La_law_776 : decode b_La_law 776 = .ok (.iadd, 1) := by decide +kernel
theorem d_La_law_777 : decode b_La_law 777 = .ok (.iaload, 1) := by decide +kernel
theorem d_La_law_778 : decode b_La_law 778 = .ok (.aload_n 0, 1) := by decide +kernel
theorem d_La_law_779 : decode b_La_law 779 = .ok (.iload 4, 2) := by decide +kernel
theorem d_La_law_781 : decode b_La_law 781 = .ok (.iconst 2, 1) := by decide +kernel
theorem d_La_law_782 : decode b_La_law 782 = .ok (.iadd, 1) := by decide +kernel
theorem d_La_law_783 : decode b_La_law 783 = .ok (.iaload, 1) := by decide +kernel
theorem d_La_law_784 : decode b_La_law 784 = .ok (.aload_n 0, 1) := by decide +kernel
theorem d_La_law_785 : decode b_La_law 785 = .ok (.iload 4, 2) := by decide +kernel
theorem d_La_law_787 : decode b_La_law 787 = .ok (.iconst 3, 1) := by decide +kernel
theorem d_La_law_788 : decode b_La_law 788 = .ok (.iadd, 1) := by decide +kernel
theorem d_La_law_789 : decode b_La_law 789 = .ok (.iaload, 1) := by decide +kernel
theorem d_La_law_790 : decode b_La_law 790 = .ok (.invokevirtual 118, 3) := by decide +kernel
theorem d_La_law_793 : decode b_La_law 793 = .ok (.istore 6, 2) := by decide +kernel
theorem d_La_law_795 : decode b_La_law 795 = .ok (.goto 58, 3) := by decide +kernel
theorem d_La_law_798 : decode b_La_law 798 = .ok (.aload_n 1, 1) := by decide +kernel
theorem d_La_law_799 : decode b_La_law 799 = .ok (.aload_n 0, 1) := by decide +kernel
theorem d_La_law_800 : decode b_La_law 800 = .ok (.iload 4, 2) := by decide +kernel
theorem d_La_law_802 : decode b_La_law 802 = .ok (.iconst 1, 1) := by decide +kernel
theorem d_La_law_803 : decode b_La_law 803 = .ok (.iadd, 1) := by decide +kernel
theorem d_La_law_804 : decode b_La_law 804 = .ok (.iaload, 1) := by decide +kernel
theorem d_La_law_805 : decode b_La_law 805 = .ok (.aload_n 3, 1) := by decide +kernel
theorem d_La_law_806 : decode b_La_law 806 = .ok (.invokestatic 119, 3) := by decide +kernel
theorem d_La_law_809 : decode b_La_law 809 = .ok (.istore 5, 2) := by decide +kernel
theorem d_La_law_811 : decode b_La_law 811 = .ok (.aload_n 2, 1) := by decide +kernel
theorem d_La_law_812 : decode b_La_law 812 = .ok (.aload_n 0, 1) := by decide +kernel
theorem d_La_law_813 : decode b_La_law 813 = .ok (.iload 4, 2) := by decide +kernel
theorem d_La_law_815 : decode b_La_law 815 = .ok (.iconst 1, 1) := by decide +kernel
theorem d_La_law_816 : decode b_La_law 816 = .ok (.iadd, 1) := by decide +kernel
theorem d_La_law_817 : decode b_La_law 817 = .ok (.iaload, 1) := by decide +kernel
theorem d_La_law_818 : decode b_La_law 818 = .ok (.invokevirtual 121, 3) := by decide +kernel
theorem d_La_law_821 : decode b_La_law 821 = .ok (.lstore 6, 2) := by decide +kernel
theorem d_La_law_823 : decode b_La_law 823 = .ok (.aload_n 2, 1) := by decide +kernel
theorem d_La_law_824 : decode b_La_law 824 = .ok (.invokevirtual 122, 3) := by decide +kernel
theorem d_La_law_827 : decode b_La_law 827 = .ok (.iload 5, 2) := by decide +kernel
theorem d_La_law_829 : decode b_La_law 829 = .ok (.if_icmp .eq 5, 3) := by decide +kernel
theorem d_La_law_832 : decode b_La_law 832 = .ok (.iconst 0, 1) := by decide +kernel
theorem d_La_law_833 : decode b_La_law 833 = .ok (.ireturn, 1) := by decide +kernel
theorem d_La_law_834 : decode b_La_law 834 = .ok (.iload 5, 2) := by decide +kernel
theorem d_La_law_836 : decode b_La_law 836 = .ok (.ifCond .ne 14, 3) := by decide +kernel
theorem d_La_law_839 : decode b_La_law 839 = .ok (.aload_n 3, 1) := by decide +kernel
theorem d_La_law_840 : decode b_La_law 840 = .ok (.iconst 0, 1) := by decide +kernel
theorem d_La_law_841 : decode b_La_law 841 = .ok (.laload, 1) := by decide +kernel
theorem d_La_law_842 : decode b_La_law 842 = .ok (.lload 6, 2) := by decide +kernel
theorem d_La_law_844 : decode b_La_law 844 = .ok (.lcmp, 1) := by decide +kernel
theorem d_La_law_845 : decode b_La_law 845 = .ok (.ifCond .eq 5, 3) := by decide +kernel
theorem d_La_law_848 : decode b_La_law 848 = .ok (.iconst 0, 1) := by decide +kernel
theorem d_La_law_849 : decode b_La_law 849 = .ok (.ireturn, 1) := by decide +kernel
theorem d_La_law_850 : decode b_La_law 850 = .ok (.goto 3, 3) := by decide +kernel
theorem d_La_law_853 : decode b_La_law 853 = .ok (.iinc 4 6, 3) := by decide +kernel
theorem d_La_law_856 : decode b_La_law 856 = .ok (.goto (-833), 3) := by decide +kernel
theorem d_La_law_859 : decode b_La_law 859 = .ok (.iconst 1, 1) := by decide +kernel
theorem d_La_law_860 : decode b_La_law 860 = .ok (.ireturn, 1) := by decide +kernel
