/-! THE LAW: decode rows -/
theorem d_Law_law_688 : decode b_Law_law 688 = .ok (.invokestatic 125, 3) := by decide +kernel
theorem d_Law_law_691 : decode b_Law_law 691 = .ok (.istore 5, 2) := by decide +kernel
theorem d_Law_law_693 : decode b_Law_law 693 = .ok (.aload_n 2, 1) := by decide +kernel
theorem d_Law_law_694 : decode b_Law_law 694 = .ok (.invokevirtual 127, 3) := by decide +kernel
theorem d_Law_law_697 : decode b_Law_law 697 = .ok (.istore 6, 2) := by decide +kernel
theorem d_Law_law_699 : decode b_Law_law 699 = .ok (.goto 16, 3) := by decide +kernel
theorem d_Law_law_702 : decode b_Law_law 702 = .ok (.aload_n 1, 1) := by decide +kernel
theorem d_Law_law_703 : decode b_Law_law 703 = .ok (.invokevirtual 128, 3) := by decide +kernel
theorem d_Law_law_706 : decode b_Law_law 706 = .ok (.pop2, 1) := by decide +kernel
theorem d_Law_law_707 : decode b_Law_law 707 = .ok (.aload_n 2, 1) := by decide +kernel
theorem d_Law_law_708 : decode b_Law_law 708 = .ok (.invokevirtual 132, 3) := by decide +kernel
theorem d_Law_law_711 : decode b_Law_law 711 = .ok (.pop2, 1) := by decide +kernel
theorem d_Law_law_712 : decode b_Law_law 712 = .ok (.goto 3, 3) := by decide +kernel
theorem d_Law_law_715 : decode b_Law_law 715 = .ok (.iinc 4 6, 3) := by decide +kernel
theorem d_Law_law_718 : decode b_Law_law 718 = .ok (.goto (-695), 3) := by decide +kernel
theorem d_Law_law_721 : decode b_Law_law 721 = .ok (.iconst 1, 1) := by decide +kernel
theorem d_Law_law_722 : decode b_Law_law 722 = .ok (.ireturn, 1) := by decide +kernel
