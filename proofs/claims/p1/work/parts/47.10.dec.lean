/-! THE LAW: decode rows -/
theorem d_Law_law_783 : decode b_Law_law 783 = .ok (.iaload, 1) := by decide +kernel
theorem d_Law_law_784 : decode b_Law_law 784 = .ok (.invokevirtual 115, 3) := by decide +kernel
theorem d_Law_law_787 : decode b_Law_law 787 = .ok (.istore 6, 2) := by decide +kernel
theorem d_Law_law_789 : decode b_Law_law 789 = .ok (.aload_n 2, 1) := by decide +kernel
theorem d_Law_law_790 : decode b_Law_law 790 = .ok (.invokevirtual 83, 3) := by decide +kernel
theorem d_Law_law_793 : decode b_Law_law 793 = .ok (.iload 5, 2) := by decide +kernel
theorem d_Law_law_795 : decode b_Law_law 795 = .ok (.if_icmp .eq 5, 3) := by decide +kernel
theorem d_Law_law_798 : decode b_Law_law 798 = .ok (.iconst 0, 1) := by decide +kernel
theorem d_Law_law_799 : decode b_Law_law 799 = .ok (.ireturn, 1) := by decide +kernel
theorem d_Law_law_800 : decode b_Law_law 800 = .ok (.iload 5, 2) := by decide +kernel
theorem d_Law_law_802 : decode b_Law_law 802 = .ok (.ifCond .ne 22, 3) := by decide +kernel
theorem d_Law_law_805 : decode b_Law_law 805 = .ok (.aload_n 3, 1) := by decide +kernel
theorem d_Law_law_806 : decode b_Law_law 806 = .ok (.iconst 0, 1) := by decide +kernel
theorem d_Law_law_807 : decode b_Law_law 807 = .ok (.laload, 1) := by decide +kernel
theorem d_Law_law_808 : decode b_Law_law 808 = .ok (.iload 6, 2) := by decide +kernel
theorem d_Law_law_810 : decode b_Law_law 810 = .ok (.ifCond .eq 7, 3) := by decide +kernel
theorem d_Law_law_813 : decode b_Law_law 813 = .ok (.lconst 1, 1) := by decide +kernel
theorem d_Law_law_814 : decode b_Law_law 814 = .ok (.goto 4, 3) := by decide +kernel
theorem d_Law_law_817 : decode b_Law_law 817 = .ok (.lconst 0, 1) := by decide +kernel
theorem d_Law_law_818 : decode b_Law_law 818 = .ok (.lcmp, 1) := by decide +kernel
theorem d_Law_law_819 : decode b_Law_law 819 = .ok (.ifCond .eq 5, 3) := by decide +kernel
theorem d_Law_law_822 : decode b_Law_law 822 = .ok (.iconst 0, 1) := by decide +kernel
theorem d_Law_law_823 : decode b_Law_law 823 = .ok (.ireturn, 1) := by decide +kernel
theorem d_Law_law_824 : decode b_Law_law 824 = .ok (.goto 304, 3) := by decide +kernel
theorem d_Law_law_827 : decode b_Law_law 827 = .ok (.aload_n 1, 1) := by decide +kernel
theorem d_Law_law_828 : decode b_Law_law 828 = .ok (.aload_n 0, 1) := by decide +kernel
theorem d_Law_law_829 : decode b_Law_law 829 = .ok (.iload 4, 2) := by decide +kernel
theorem d_Law_law_831 : decode b_Law_law 831 = .ok (.iconst 1, 1) := by decide +kernel
theorem d_Law_law_832 : decode b_Law_law 832 = .ok (.iadd, 1) := by decide +kernel
theorem d_Law_law_833 : decode b_Law_law 833 = .ok (.iaload, 1) := by decide +kernel
theorem d_Law_law_834 : decode b_Law_law 834 = .ok (.aload_n 0, 1) := by decide +kernel
theorem d_Law_law_835 : decode b_Law_law 835 = .ok (.iload 4, 2) := by decide +kernel
theorem d_Law_law_837 : decode b_Law_law 837 = .ok (.iconst 2, 1) := by decide +kernel
theorem d_Law_law_838 : decode b_Law_law 838 = .ok (.iadd, 1) := by decide +kernel
theorem d_Law_law_839 : decode b_Law_law 839 = .ok (.iaload, 1) := by decide +kernel
theorem d_Law_law_840 : decode b_Law_law 840 = .ok (.aload_n 3, 1) := by decide +kernel
theorem d_Law_law_841 : decode b_Law_law 841 = .ok (.invokestatic 116, 3) := by decide +kernel
theorem d_Law_law_844 : decode b_Law_law 844 = .ok (.istore 5, 2) := by decide +kernel
theorem d_Law_law_846 : decode b_Law_law 846 = .ok (.aload_n 2, 1) := by decide +kernel
theorem d_Law_law_847 : decode b_Law_law 847 = .ok (.aload_n 0, 1) := by decide +kernel
theorem d_Law_law_848 : decode b_Law_law 848 = .ok (.iload 4, 2) := by decide +kernel
theorem d_Law_law_850 : decode b_Law_law 850 = .ok (.iconst 1, 1) := by decide +kernel
theorem d_Law_law_851 : decode b_Law_law 851 = .ok (.iadd, 1) := by decide +kernel
theorem d_Law_law_852 : decode b_Law_law 852 = .ok (.iaload, 1) := by decide +kernel
theorem d_Law_law_853 : decode b_Law_law 853 = .ok (.aload_n 0, 1) := by decide +kernel
theorem d_Law_law_854 : decode b_Law_law 854 = .ok (.iload 4, 2) := by decide +kernel
theorem d_Law_law_856 : decode b_Law_law 856 = .ok (.iconst 2, 1) := by decide +kernel
theorem d_Law_law_857 : decode b_Law_law 857 = .ok (.iadd, 1) := by decide +kernel
theorem d_Law_law_858 : decode b_Law_law 858 = .ok (.iaload, 1) := by decide +kernel
theorem d_Law_law_859 : decode b_Law_law 859 = .ok (.invokevirtual 118, 3) := by decide +kernel
