/-! THE LAW: decode rows -/
theorem d_Law_law_693 : decode b_Law_law 693 = .ok (.iaload, 1) := by decide +kernel
theorem d_Law_law_694 : decode b_Law_law 694 = .ok (.aload_n 3, 1) := by decide +kernel
theorem d_Law_law_695 : decode b_Law_law 695 = .ok (.invokestatic 125, 3) := by decide +kernel
theorem d_Law_law_698 : decode b_Law_law 698 = .ok (.istore 5, 2) := by decide +kernel
theorem d_Law_law_700 : decode b_Law_law 700 = .ok (.aload_n 2, 1) := by decide +kernel
theorem d_Law_law_701 : decode b_Law_law 701 = .ok (.aload_n 0, 1) := by decide +kernel
theorem d_Law_law_702 : decode b_Law_law 702 = .ok (.iload 4, 2) := by decide +kernel
theorem d_Law_law_704 : decode b_Law_law 704 = .ok (.iconst 1, 1) := by decide +kernel
theorem d_Law_law_705 : decode b_Law_law 705 = .ok (.iadd, 1) := by decide +kernel
theorem d_Law_law_706 : decode b_Law_law 706 = .ok (.iaload, 1) := by decide +kernel
theorem d_Law_law_707 : decode b_Law_law 707 = .ok (.aload_n 0, 1) := by decide +kernel
theorem d_Law_law_708 : decode b_Law_law 708 = .ok (.iload 4, 2) := by decide +kernel
theorem d_Law_law_710 : decode b_Law_law 710 = .ok (.iconst 2, 1) := by decide +kernel
theorem d_Law_law_711 : decode b_Law_law 711 = .ok (.iadd, 1) := by decide +kernel
theorem d_Law_law_712 : decode b_Law_law 712 = .ok (.iaload, 1) := by decide +kernel
theorem d_Law_law_713 : decode b_Law_law 713 = .ok (.invokevirtual 127, 3) := by decide +kernel
theorem d_Law_law_716 : decode b_Law_law 716 = .ok (.istore 6, 2) := by decide +kernel
theorem d_Law_law_718 : decode b_Law_law 718 = .ok (.goto 32, 3) := by decide +kernel
theorem d_Law_law_721 : decode b_Law_law 721 = .ok (.aload_n 1, 1) := by decide +kernel
theorem d_Law_law_722 : decode b_Law_law 722 = .ok (.aload_n 3, 1) := by decide +kernel
theorem d_Law_law_723 : decode b_Law_law 723 = .ok (.invokestatic 128, 3) := by decide +kernel
theorem d_Law_law_726 : decode b_Law_law 726 = .ok (.istore 5, 2) := by decide +kernel
theorem d_Law_law_728 : decode b_Law_law 728 = .ok (.aload_n 2, 1) := by decide +kernel
theorem d_Law_law_729 : decode b_Law_law 729 = .ok (.invokevirtual 130, 3) := by decide +kernel
theorem d_Law_law_732 : decode b_Law_law 732 = .ok (.istore 6, 2) := by decide +kernel
theorem d_Law_law_734 : decode b_Law_law 734 = .ok (.goto 16, 3) := by decide +kernel
theorem d_Law_law_737 : decode b_Law_law 737 = .ok (.aload_n 1, 1) := by decide +kernel
theorem d_Law_law_738 : decode b_Law_law 738 = .ok (.invokevirtual 131, 3) := by decide +kernel
theorem d_Law_law_741 : decode b_Law_law 741 = .ok (.pop2, 1) := by decide +kernel
theorem d_Law_law_742 : decode b_Law_law 742 = .ok (.aload_n 2, 1) := by decide +kernel
theorem d_Law_law_743 : decode b_Law_law 743 = .ok (.invokevirtual 135, 3) := by decide +kernel
theorem d_Law_law_746 : decode b_Law_law 746 = .ok (.pop2, 1) := by decide +kernel
theorem d_Law_law_747 : decode b_Law_law 747 = .ok (.goto 3, 3) := by decide +kernel
theorem d_Law_law_750 : decode b_Law_law 750 = .ok (.iinc 4 6, 3) := by decide +kernel
theorem d_Law_law_753 : decode b_Law_law 753 = .ok (.goto (-730), 3) := by decide +kernel
theorem d_Law_law_756 : decode b_Law_law 756 = .ok (.iconst 1, 1) := by decide +kernel
theorem d_Law_law_757 : decode b_Law_law 757 = .ok (.ireturn, 1) := by decide +kernel
