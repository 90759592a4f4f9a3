theorem d_La_law_758 : decode b_La_law 758 = .ok (.aload_n 0, 1) := by decide +kernel
theorem d_La_law_759 : decode b_La_law 759 = .ok (.iload 4, 2) := by decide +kernel
theorem d_La_law_761 : decode b_La_law 761 = .ok (.iconst 1, 1) := by decide +kernel
theorem d_La_law_762 : decode b_La_law 762 = .ok (.iadd, 1) := by decide +kernel
theorem d_La_law_763 : decode b_La_law 763 = .ok (.iaload, 1) := by decide +kernel
theorem d_La_law_764 : decode b_La_law 764 = .ok (.aload_n 0, 1) := by decide +kernel
theorem d_La_law_765 : decode b_La_law 765 = .ok (.iload 4, 2) := by decide +kernel
theorem d_La_law_767 : decode b_La_law 767 = .ok (.iconst 2, 1) := by decide +kernel
theorem d_La_law_768 : decode b_La_law 768 = .ok (.iadd, 1) := by decide +kernel
theorem d_La_law_769 : decode b_La_law 769 = .ok (.iaload, 1) := by decide +kernel
theorem d_La_law_770 : decode b_La_law 770 = .ok (.aload_n 0, 1) := by decide +kernel
theorem d_La_law_771 : decode b_La_law 771 = .ok (.iload 4, 2) := by decide +kernel
theorem d_La_law_773 : decode b_La_law 773 = .ok (.iconst 3, 1) := by decide +kernel
theorem d_La_law_774 : decode b_La_law 774 = .ok (.iadd, 1) := by decide +kernel
theorem d_La_law_775 : decode b_La_law 775 = .ok (.iaload, 1) := by decide +kernel
theorem d_La_law_776 : decode b_La_law 776 = .ok (.aload_n 3, 1) := by decide +kernel
theorem d_La_law_777 : decode b_La_law 777 = .ok (.invokestatic 119, 3) := by decide +kernel
theorem d_La_law_780 : decode b_La_law 780 = .ok (.istore 5, 2) := by decide +kernel
theorem d_La_law_782 : decode b_La_law 782 = .ok (.aload_n 2, 1) := by decide +kernel
theorem d_La_law_783 : decode b_La_law 783 = .ok (.aload_n 0, 1) := by decide +kernel
theorem d_La_law_784 : decode b_La_law 784 = .ok (.iload 4, 2) := by decide +kernel
theorem d_La_law_786 : decode b_La_law 786 = .ok (.iconst 1, 1) := by decide +kernel
theorem d_La_law_787 : decode b_La_law 787 = .ok (.iadd, 1) := by decide +kernel
theorem d_La_law_788 : decode b_La_law 788 = .ok (.iaload, 1) := by decide +kernel
theorem d_La_law_789 : decode b_La_law 789 = .ok (.aload_n 0, 1) := by decide +kernel
theorem d_La_law_790 : decode b_La_law 790 = .ok (.iload 4, 2) := by decide +kernel
theorem d_La_law_792 : decode b_La_law 792 = .ok (.iconst 2, 1) := by decide +kernel
theorem d_La_law_793 : decode b_La_law 793 = .ok (.iadd, 1) := by decide +kernel
theorem d_La_law_794 : decode b_La_law 794 = .ok (.iaload, 1) := by decide +kernel
theorem d_La_law_795 : decode b_La_law 795 = .ok (.aload_n 0, 1) := by decide +kernel
theorem d_La_law_796 : decode b_La_law 796 = .ok (.iload 4, 2) := by decide +kernel
theorem d_La_law_798 : decode b_La_law 798 = .ok (.iconst 3, 1) := by decide +kernel
theorem d_La_law_799 : decode b_La_law 799 = .ok (.iadd, 1) := by decide +kernel
theorem d_La_law_800 : decode b_La_law 800 = .ok (.iaload, 1) := by decide +kernel
theorem d_La_law_801 : decode b_La_law 801 = .ok (.invokevirtual 122, 3) := by decide +kernel
theorem d_La_law_804 : decode b_La_law 804 = .ok (.istore 6, 2) := by decide +kernel
theorem d_La_law_806 : decode b_La_law 806 = .ok (.goto 31, 3) := by decide +kernel
theorem d_La_law_809 : decode b_La_law 809 = .ok (.aload_n 1, 1) := by decide +kernel
theorem d_La_law_810 : decode b_La_law 810 = .ok (.aload_n 0, 1) := by decide +kernel
theorem d_La_law_811 : decode b_La_law 811 = .ok (.iload 4, 2) := by decide +kernel
theorem d_La_law_813 : decode b_La_law 813 = .ok (.iconst 1, 1) := by decide +kernel
theorem d_La_law_814 : decode b_La_law 814 = .ok (.iadd, 1) := by decide +kernel
theorem d_La_law_815 : decode b_La_law 815 = .ok (.iaload, 1) := by decide +kernel
theorem d_La_law_816 : decode b_La_law 816 = .ok (.aload_n 3, 1) := by decide +kernel
theorem d_La_law_817 : decode b_La_law 817 = .ok (.invokestatic 123, 3) := by decide +kernel
theorem d_La_law_820 : decode b_La_law 820 = .ok (.istore 5, 2) := by decide +kernel
theorem d_La_law_822 : decode b_La_law 822 = .ok (.aload_n 2, 1) := by decide +kernel
theorem d_La_law_823 : decode b_La_law 823 = .ok (.aload_n 0, 1) := by decide +kernel
theorem d_La_law_824 : decode b_La_law 824 = .ok (.iload 4, 2) := by decide +kernel
theorem d_La_law_826 : decode b_La_law 826 = .ok (.iconst 1, 1) := by decide +kernel
theorem d_La_law_827 : decode b_La_law 827 = .ok (.iadd, 1) := by decide +kernel
theorem d_La_law_828 : decode b_La_law 828 = .ok (.iaload, 1) := by decide +kernel
theorem d_La_law_829 : decode b_La_law 829 = .ok (.invokevirtual 125, 3) := by decide +kernel
theorem d_La_law_832 : decode b_La_law 832 = .ok (.lstore 6, 2) := by decide +kernel
theorem d_La_law_834 : decode b_La_law 834 = .ok (.goto 3, 3) := by decide +kernel
theorem d_La_law_837 : decode b_La_law 837 = .ok (.iinc 4 6, 3) := by decide +kernel
theorem d_La_law_840 : decode b_La_law 840 = .ok (.goto (-817), 3) := by decide +kernel
theorem d_La_law_843 : decode b_La_law 843 = .ok (.iconst 1, 1) := by decide +kernel
theorem d_La_law_844 : decode b_La_law 844 = .ok (.ireturn, 1) := by decide +kernel
