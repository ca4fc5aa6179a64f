/-! THE LAW: decode rows -/
theorem d_Law_law_709 : decode b_Law_law 709 = .ok (.iaload, 1) := by decide +kernel
theorem d_Law_law_710 : decode b_Law_law 710 = .ok (.aload_n 0, 1) := by decide +kernel
theorem d_Law_law_711 : decode b_Law_law 711 = .ok (.iload 4, 2) := by decide +kernel
theorem d_Law_law_713 : decode b_Law_law 713 = .ok (.iconst 2, 1) := by decide +kernel
theorem d_Law_law_714 : decode b_Law_law 714 = .ok (.iadd, 1) := by decide +kernel
theorem d_Law_law_715 : decode b_Law_law 715 = .ok (.iaload, 1) := by decide +kernel
theorem d_Law_law_716 : decode b_Law_law 716 = .ok (.invokevirtual 112, 3) := by decide +kernel
theorem d_Law_law_719 : decode b_Law_law 719 = .ok (.istore 6, 2) := by decide +kernel
theorem d_Law_law_721 : decode b_Law_law 721 = .ok (.aload_n 2, 1) := by decide +kernel
theorem d_Law_law_722 : decode b_Law_law 722 = .ok (.invokevirtual 83, 3) := by decide +kernel
theorem d_Law_law_725 : decode b_Law_law 725 = .ok (.iload 5, 2) := by decide +kernel
theorem d_Law_law_727 : decode b_Law_law 727 = .ok (.if_icmp .eq 5, 3) := by decide +kernel
theorem d_Law_law_730 : decode b_Law_law 730 = .ok (.iconst 0, 1) := by decide +kernel
theorem d_Law_law_731 : decode b_Law_law 731 = .ok (.ireturn, 1) := by decide +kernel
theorem d_Law_law_732 : decode b_Law_law 732 = .ok (.iload 5, 2) := by decide +kernel
theorem d_Law_law_734 : decode b_Law_law 734 = .ok (.ifCond .ne 15, 3) := by decide +kernel
theorem d_Law_law_737 : decode b_Law_law 737 = .ok (.aload_n 3, 1) := by decide +kernel
theorem d_Law_law_738 : decode b_Law_law 738 = .ok (.iconst 0, 1) := by decide +kernel
theorem d_Law_law_739 : decode b_Law_law 739 = .ok (.laload, 1) := by decide +kernel
theorem d_Law_law_740 : decode b_Law_law 740 = .ok (.iload 6, 2) := by decide +kernel
theorem d_Law_law_742 : decode b_Law_law 742 = .ok (.i2l, 1) := by decide +kernel
theorem d_Law_law_743 : decode b_Law_law 743 = .ok (.lcmp, 1) := by decide +kernel
theorem d_Law_law_744 : decode b_Law_law 744 = .ok (.ifCond .eq 5, 3) := by decide +kernel
theorem d_Law_law_747 : decode b_Law_law 747 = .ok (.iconst 0, 1) := by decide +kernel
theorem d_Law_law_748 : decode b_Law_law 748 = .ok (.ireturn, 1) := by decide +kernel
theorem d_Law_law_749 : decode b_Law_law 749 = .ok (.goto 379, 3) := by decide +kernel
theorem d_Law_law_752 : decode b_Law_law 752 = .ok (.aload_n 1, 1) := by decide +kernel
theorem d_Law_law_753 : decode b_Law_law 753 = .ok (.aload_n 0, 1) := by decide +kernel
theorem d_Law_law_754 : decode b_Law_law 754 = .ok (.iload 4, 2) := by decide +kernel
theorem d_Law_law_756 : decode b_Law_law 756 = .ok (.iconst 1, 1) := by decide +kernel
theorem d_Law_law_757 : decode b_Law_law 757 = .ok (.iadd, 1) := by decide +kernel
theorem d_Law_law_758 : decode b_Law_law 758 = .ok (.iaload, 1) := by decide +kernel
theorem d_Law_law_759 : decode b_Law_law 759 = .ok (.aload_n 0, 1) := by decide +kernel
theorem d_Law_law_760 : decode b_Law_law 760 = .ok (.iload 4, 2) := by decide +kernel
theorem d_Law_law_762 : decode b_Law_law 762 = .ok (.iconst 2, 1) := by decide +kernel
theorem d_Law_law_763 : decode b_Law_law 763 = .ok (.iadd, 1) := by decide +kernel
theorem d_Law_law_764 : decode b_Law_law 764 = .ok (.iaload, 1) := by decide +kernel
theorem d_Law_law_765 : decode b_Law_law 765 = .ok (.aload_n 3, 1) := by decide +kernel
theorem d_Law_law_766 : decode b_Law_law 766 = .ok (.invokestatic 113, 3) := by decide +kernel
theorem d_Law_law_769 : decode b_Law_law 769 = .ok (.istore 5, 2) := by decide +kernel
theorem d_Law_law_771 : decode b_Law_law 771 = .ok (.aload_n 2, 1) := by decide +kernel
theorem d_Law_law_772 : decode b_Law_law 772 = .ok (.aload_n 0, 1) := by decide +kernel
theorem d_Law_law_773 : decode b_Law_law 773 = .ok (.iload 4, 2) := by decide +kernel
theorem d_Law_law_775 : decode b_Law_law 775 = .ok (.iconst 1, 1) := by decide +kernel
theorem d_Law_law_776 : decode b_Law_law 776 = .ok (.iadd, 1) := by decide +kernel
theorem d_Law_law_777 : decode b_Law_law 777 = .ok (.iaload, 1) := by decide +kernel
theorem d_Law_law_778 : decode b_Law_law 778 = .ok (.aload_n 0, 1) := by decide +kernel
theorem d_Law_law_779 : decode b_Law_law 779 = .ok (.iload 4, 2) := by decide +kernel
theorem d_Law_law_781 : decode b_Law_law 781 = .ok (.iconst 2, 1) := by decide +kernel
theorem d_Law_law_782 : decode b_Law_law 782 = .ok (.iadd, 1) := by decide +kernel
