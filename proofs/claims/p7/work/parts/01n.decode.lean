theorem d_La_law_758 : decode b_La_law 758 = .ok (.iconst 3, 1) := by decide +kernel
theorem d_La_law_759 : decode b_La_law 759 = .ok (.iadd, 1) := by decide +kernel
theorem d_La_law_760 : decode b_La_law 760 = .ok (.iaload, 1) := by decide +kernel
theorem d_La_law_761 : decode b_La_law 761 = .ok (.i2l, 1) := by decide +kernel
theorem d_La_law_762 : decode b_La_law 762 = .ok (.ldc2_w 75, 3) := by decide +kernel
theorem d_La_law_765 : decode b_La_law 765 = .ok (.land, 1) := by decide +kernel
theorem d_La_law_766 : decode b_La_law 766 = .ok (.lor, 1) := by decide +kernel
theorem d_La_law_767 : decode b_La_law 767 = .ok (.invokevirtual 118, 3) := by decide +kernel
theorem d_La_law_770 : decode b_La_law 770 = .ok (.goto 83, 3) := by decide +kernel
theorem d_La_law_773 : decode b_La_law 773 = .ok (.aload_n 1, 1) := by decide +kernel
theorem d_La_law_774 : decode b_La_law 774 = .ok (.aload_n 0, 1) := by decide +kernel
theorem d_La_law_775 : decode b_La_law 775 = .ok (.iload 4, 2) := by decide +kernel
theorem d_La_law_777 : decode b_La_law 777 = .ok (.iconst 1, 1) := by decide +kernel
theorem d_La_law_778 : decode b_La_law 778 = .ok (.iadd, 1) := by decide +kernel
theorem d_La_law_779 : decode b_La_law 779 = .ok (.iaload, 1) := by decide +kernel
theorem d_La_law_780 : decode b_La_law 780 = .ok (.aload_n 0, 1) := by decide +kernel
theorem d_La_law_781 : decode b_La_law 781 = .ok (.iload 4, 2) := by decide +kernel
theorem d_La_law_783 : decode b_La_law 783 = .ok (.iconst 2, 1) := by decide +kernel
theorem d_La_law_784 : decode b_La_law 784 = .ok (.iadd, 1) := by decide +kernel
theorem d_La_law_785 : decode b_La_law 785 = .ok (.iaload, 1) := by decide +kernel
theorem d_La_law_786 : decode b_La_law 786 = .ok (.aload_n 0, 1) := by decide +kernel
theorem d_La_law_787 : decode b_La_law 787 = .ok (.iload 4, 2) := by decide +kernel
theorem d_La_law_789 : decode b_La_law 789 = .ok (.iconst 3, 1) := by decide +kernel
theorem d_La_law_790 : decode b_La_law 790 = .ok (.iadd, 1) := by decide +kernel
theorem d_La_law_791 : decode b_La_law 791 = .ok (.iaload, 1) := by decide +kernel
theorem d_La_law_792 : decode b_La_law 792 = .ok (.aload_n 3, 1) := by decide +kernel
theorem d_La_law_793 : decode b_La_law 793 = .ok (.invokestatic 119, 3) := by decide +kernel
theorem d_La_law_796 : decode b_La_law 796 = .ok (.istore 5, 2) := by decide +kernel
theorem d_La_law_798 : decode b_La_law 798 = .ok (.aload_n 2, 1) := by decide +kernel
theorem d_La_law_799 : decode b_La_law 799 = .ok (.aload_n 0, 1) := by decide +kernel
theorem d_La_law_800 : decode b_La_law 800 = .ok (.iload 4, 2) := by decide +kernel
theorem d_La_law_802 : decode b_La_law 802 = .ok (.iconst 1, 1) := by decide +kernel
theorem d_La_law_803 : decode b_La_law 803 = .ok (.iadd, 1) := by decide +kernel
theorem d_La_law_804 : decode b_La_law 804 = .ok (.iaload, 1) := by decide +kernel
theorem d_La_law_805 : decode b_La_law 805 = .ok (.aload_n 0, 1) := by decide +kernel
theorem d_La_law_806 : decode b_La_law 806 = .ok (.iload 4, 2) := by decide +kernel
theorem d_La_law_808 : decode b_La_law 808 = .ok (.iconst 2, 1) := by decide +kernel
theorem d_La_law_809 : decode b_La_law 809 = .ok (.iadd, 1) := by decide +kernel
theorem d_La_law_810 : decode b_La_law 810 = .ok (.iaload, 1) := by decide +kernel
theorem d_La_law_811 : decode b_La_law 811 = .ok (.aload_n 0, 1) := by decide +kernel
theorem d_La_law_812 : decode b_La_law 812 = .ok (.iload 4, 2) := by decide +kernel
theorem d_La_law_814 : decode b_La_law 814 = .ok (.iconst 3, 1) := by decide +kernel
theorem d_La_law_815 : decode b_La_law 815 = .ok (.iadd, 1) := by decide +kernel
theorem d_La_law_816 : decode b_La_law 816 = .ok (.iaload, 1) := by decide +kernel
theorem d_La_law_817 : decode b_La_law 817 = .ok (.invokevirtual 122, 3) := by decide +kernel
theorem d_La_law_820 : decode b_La_law 820 = .ok (.istore 6, 2) := by decide +kernel
theorem d_La_law_822 : decode b_La_law 822 = .ok (.goto 31, 3) := by decide +kernel
theorem d_La_law_825 : decode b_La_law 825 = .ok (.aload_n 1, 1) := by decide +kernel
theorem d_La_law_826 : decode b_La_law 826 = .ok (.aload_n 0, 1) := by decide +kernel
theorem d_La_law_827 : decode b_La_law 827 = .ok (.iload 4, 2) := by decide +kernel
theorem d_La_law_829 : decode b_La_law 829 = .ok (.iconst 1, 1) := by decide +kernel
theorem d_La_law_830 : decode b_La_law 830 = .ok (.iadd, 1) := by decide +kernel
theorem d_La_law_831 : decode b_La_law 831 = .ok (.iaload, 1) := by decide +kernel
theorem d_La_law_832 : decode b_La_law 832 = .ok (.aload_n 3, 1) := by decide +kernel
theorem d_La_law_833 : decode b_La_law 833 = .ok (.invokestatic 123, 3) := by decide +kernel
theorem d_La_law_836 : decode b_La_law 836 = .ok (.istore 5, 2) := by decide +kernel
theorem d_La_law_838 : decode b_La_law 838 = .ok (.aload_n 2, 1) := by decide +kernel
theorem d_La_law_839 : decode b_La_law 839 = .ok (.aload_n 0, 1) := by decide +kernel
theorem d_La_law_840 : decode b_La_law 840 = .ok (.iload 4, 2) := by decide +kernel
theorem d_La_law_842 : decode b_La_law 842 = .ok (.iconst 1, 1) := by decide +kernel
theorem d_La_law_843 : decode b_La_law 843 = .ok (.iadd, 1) := by decide +kernel
theorem d_La_law_844 : decode b_La_law 844 = .ok (.iaload, 1) := by decide +kernel
theorem d_La_law_845 : decode b_La_law 845 = .ok (.invokevirtual 125, 3) := by decide +kernel
theorem d_La_law_848 : decode b_La_law 848 = .ok (.lstore 6, 2) := by decide +kernel
theorem d_La_law_850 : decode b_La_law 850 = .ok (.goto 3, 3) := by decide +kernel
theorem d_La_law_853 : decode b_La_law 853 = .ok (.iinc 4 6, 3) := by decide +kernel
theorem d_La_law_856 : decode b_La_law 856 = .ok (.goto (-833), 3) := by decide +kernel
theorem d_La_law_859 : decode b_La_law 859 = .ok (.iconst 1, 1) := by decide +kernel
theorem d_La_law_860 : decode b_La_law 860 = .ok (.ireturn, 1) := by decide +kernel
