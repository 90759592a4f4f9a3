theorem d_La_law_757 : decode b_La_law 757 = .ok (.iload 4, 2) := by decide +kernel
theorem d_La_law_759 : decode b_La_law 759 = .ok (.iconst 3, 1) := by decide +kernel
theorem d_La_law_760 : decode b_La_law 760 = .ok (.iadd, 1) := by decide +kernel
theorem d_La_law_761 : decode b_La_law 761 = .ok (.iaload, 1) := by decide +kernel
theorem d_La_law_762 : decode b_La_law 762 = .ok (.i2l, 1) := by decide +kernel
theorem d_La_law_763 : decode b_La_law 763 = .ok (.ldc2_w 75, 3) := by decide +kernel
theorem d_La_law_766 : decode b_La_law 766 = .ok (.land, 1) := by decide +kernel
theorem d_La_law_767 : decode b_La_law 767 = .ok (.lor, 1) := by decide +kernel
theorem d_La_law_768 : decode b_La_law 768 = .ok (.invokevirtual 118, 3) := by decide +kernel
theorem d_La_law_771 : decode b_La_law 771 = .ok (.goto 83, 3) := by decide +kernel
theorem d_La_law_774 : decode b_La_law 774 = .ok (.aload_n 1, 1) := by decide +kernel
theorem d_La_law_775 : decode b_La_law 775 = .ok (.aload_n 0, 1) := by decide +kernel
theorem d_La_law_776 : decode b_La_law 776 = .ok (.iload 4, 2) := by decide +kernel
theorem d_La_law_778 : decode b_La_law 778 = .ok (.iconst 1, 1) := by decide +kernel
theorem d_La_law_779 : decode b_La_law 779 = .ok (.iadd, 1) := by decide +kernel
theorem d_La_law_780 : decode b_La_law 780 = .ok (.iaload, 1) := by decide +kernel
theorem d_La_law_781 : decode b_La_law 781 = .ok (.aload_n 0, 1) := by decide +kernel
theorem d_La_law_782 : decode b_La_law 782 = .ok (.iload 4, 2) := by decide +kernel
theorem d_La_law_784 : decode b_La_law 784 = .ok (.iconst 2, 1) := by decide +kernel
theorem d_La_law_785 : decode b_La_law 785 = .ok (.iadd, 1) := by decide +kernel
theorem d_La_law_786 : decode b_La_law 786 = .ok (.iaload, 1) := by decide +kernel
theorem d_La_law_787 : decode b_La_law 787 = .ok (.aload_n 0, 1) := by decide +kernel
theorem d_La_law_788 : decode b_La_law 788 = .ok (.iload 4, 2) := by decide +kernel
theorem d_La_law_790 : decode b_La_law 790 = .ok (.iconst 3, 1) := by decide +kernel
theorem d_La_law_791 : decode b_La_law 791 = .ok (.iadd, 1) := by decide +kernel
theorem d_La_law_792 : decode b_La_law 792 = .ok (.iaload, 1) := by decide +kernel
theorem d_La_law_793 : decode b_La_law 793 = .ok (.aload_n 3, 1) := by decide +kernel
theorem d_La_law_794 : decode b_La_law 794 = .ok (.invokestatic 119, 3) := by decide +kernel
theorem d_La_law_797 : decode b_La_law 797 = .ok (.istore 5, 2) := by decide +kernel
theorem d_La_law_799 : decode b_La_law 799 = .ok (.aload_n 2, 1) := by decide +kernel
theorem d_La_law_800 : decode b_La_law 800 = .ok (.aload_n 0, 1) := by decide +kernel
theorem d_La_law_801 : decode b_La_law 801 = .ok (.iload 4, 2) := by decide +kernel
theorem d_La_law_803 : decode b_La_law 803 = .ok (.iconst 1, 1) := by decide +kernel
theorem d_La_law_804 : decode b_La_law 804 = .ok (.iadd, 1) := by decide +kernel
theorem d_La_law_805 : decode b_La_law 805 = .ok (.iaload, 1) := by decide +kernel
theorem d_La_law_806 : decode b_La_law 806 = .ok (.aload_n 0, 1) := by decide +kernel
theorem d_La_law_807 : decode b_La_law 807 = .ok (.iload 4, 2) := by decide +kernel
theorem d_La_law_809 : decode b_La_law 809 = .ok (.iconst 2, 1) := by decide +kernel
theorem d_La_law_810 : decode b_La_law 810 = .ok (.iadd, 1) := by decide +kernel
theorem d_La_law_811 : decode b_La_law 811 = .ok (.iaload, 1) := by decide +kernel
theorem d_La_law_812 : decode b_La_law 812 = .ok (.aload_n 0, 1) := by decide +kernel
theorem d_La_law_813 : decode b_La_law 813 = .ok (.iload 4, 2) := by decide +kernel
theorem d_La_law_815 : decode b_La_law 815 = .ok (.iconst 3, 1) := by decide +kernel
theorem d_La_law_816 : decode b_La_law 816 = .ok (.iadd, 1) := by decide +kernel
theorem d_La_law_817 : decode b_La_law 817 = .ok (.iaload, 1) := by decide +kernel
theorem d_La_law_818 : decode b_La_law 818 = .ok (.invokevirtual 122, 3) := by decide +kernel
theorem d_La_law_821 : decode b_La_law 821 = .ok (.istore 6, 2) := by decide +kernel
theorem d_La_law_823 : decode b_La_law 823 = .ok (.goto 31, 3) := by decide +kernel
theorem d_La_law_826 : decode b_La_law 826 = .ok (.aload_n 1, 1) := by decide +kernel
theorem d_La_law_827 : decode b_La_law 827 = .ok (.aload_n 0, 1) := by decide +kernel
theorem d_La_law_828 : decode b_La_law 828 = .ok (.iload 4, 2) := by decide +kernel
theorem d_La_law_830 : decode b_La_law 830 = .ok (.iconst 1, 1) := by decide +kernel
theorem d_La_law_831 : decode b_La_law 831 = .ok (.iadd, 1) := by decide +kernel
theorem d_La_law_832 : decode b_La_law 832 = .ok (.iaload, 1) := by decide +kernel
theorem d_La_law_833 : decode b_La_law 833 = .ok (.aload_n 3, 1) := by decide +kernel
theorem d_La_law_834 : decode b_La_law 834 = .ok (.invokestatic 123, 3) := by decide +kernel
theorem d_La_law_837 : decode b_La_law 837 = .ok (.istore 5, 2) := by decide +kernel
theorem d_La_law_839 : decode b_La_law 839 = .ok (.aload_n 2, 1) := by decide +kernel
theorem d_La_law_840 : decode b_La_law 840 = .ok (.aload_n 0, 1) := by decide +kernel
theorem d_La_law_841 : decode b_La_law 841 = .ok (.iload 4, 2) := by decide +kernel
theorem d_La_law_843 : decode b_La_law 843 = .ok (.iconst 1, 1) := by decide +kernel
theorem d_La_law_844 : decode b_La_law 844 = .ok (.iadd, 1) := by decide +kernel
theorem d_La_law_845 : decode b_La_law 845 = .ok (.iaload, 1) := by decide +kernel
theorem d_La_law_846 : decode b_La_law 846 = .ok (.invokevirtual 125, 3) := by decide +kernel
theorem d_La_law_849 : decode b_La_law 849 = .ok (.lstore 6, 2) := by decide +kernel
theorem d_La_law_851 : decode b_La_law 851 = .ok (.goto 3, 3) := by decide +kernel
theorem d_La_law_854 : decode b_La_law 854 = .ok (.iinc 4 6, 3) := by decide +kernel
theorem d_La_law_857 : decode b_La_law 857 = .ok (.goto (-834), 3) := by decide +kernel
theorem d_La_law_860 : decode b_La_law 860 = .ok (.iconst 1, 1) := by decide +kernel
theorem d_La_law_861 : decode b_La_law 861 = .ok (.ireturn, 1) := by decide +kernel
