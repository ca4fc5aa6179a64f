/-! THE LAW: decode rows -/
theorem d_Law_law_635 : decode b_Law_law 635 = .ok (.aload_n 2, 1) := by decide +kernel
theorem d_Law_law_636 : decode b_Law_law 636 = .ok (.aload_n 0, 1) := by decide +kernel
theorem d_Law_law_637 : decode b_Law_law 637 = .ok (.iload 4, 2) := by decide +kernel
theorem d_Law_law_639 : decode b_Law_law 639 = .ok (.iconst 1, 1) := by decide +kernel
theorem d_Law_law_640 : decode b_Law_law 640 = .ok (.iadd, 1) := by decide +kernel
theorem d_Law_law_641 : decode b_Law_law 641 = .ok (.iaload, 1) := by decide +kernel
theorem d_Law_law_642 : decode b_Law_law 642 = .ok (.aload_n 0, 1) := by decide +kernel
theorem d_Law_law_643 : decode b_Law_law 643 = .ok (.iload 4, 2) := by decide +kernel
theorem d_Law_law_645 : decode b_Law_law 645 = .ok (.iconst 2, 1) := by decide +kernel
theorem d_Law_law_646 : decode b_Law_law 646 = .ok (.iadd, 1) := by decide +kernel
theorem d_Law_law_647 : decode b_Law_law 647 = .ok (.iaload, 1) := by decide +kernel
theorem d_Law_law_648 : decode b_Law_law 648 = .ok (.invokevirtual 109, 3) := by decide +kernel
theorem d_Law_law_651 : decode b_Law_law 651 = .ok (.istore 6, 2) := by decide +kernel
theorem d_Law_law_653 : decode b_Law_law 653 = .ok (.aload_n 2, 1) := by decide +kernel
theorem d_Law_law_654 : decode b_Law_law 654 = .ok (.invokevirtual 83, 3) := by decide +kernel
theorem d_Law_law_657 : decode b_Law_law 657 = .ok (.iload 5, 2) := by decide +kernel
theorem d_Law_law_659 : decode b_Law_law 659 = .ok (.if_icmp .eq 5, 3) := by decide +kernel
theorem d_Law_law_662 : decode b_Law_law 662 = .ok (.iconst 0, 1) := by decide +kernel
theorem d_Law_law_663 : decode b_Law_law 663 = .ok (.ireturn, 1) := by decide +kernel
theorem d_Law_law_664 : decode b_Law_law 664 = .ok (.iload 5, 2) := by decide +kernel
theorem d_Law_law_666 : decode b_Law_law 666 = .ok (.ifCond .ne 15, 3) := by decide +kernel
theorem d_Law_law_669 : decode b_Law_law 669 = .ok (.aload_n 3, 1) := by decide +kernel
theorem d_Law_law_670 : decode b_Law_law 670 = .ok (.iconst 0, 1) := by decide +kernel
theorem d_Law_law_671 : decode b_Law_law 671 = .ok (.laload, 1) := by decide +kernel
theorem d_Law_law_672 : decode b_Law_law 672 = .ok (.iload 6, 2) := by decide +kernel
theorem d_Law_law_674 : decode b_Law_law 674 = .ok (.i2l, 1) := by decide +kernel
theorem d_Law_law_675 : decode b_Law_law 675 = .ok (.lcmp, 1) := by decide +kernel
theorem d_Law_law_676 : decode b_Law_law 676 = .ok (.ifCond .eq 5, 3) := by decide +kernel
theorem d_Law_law_679 : decode b_Law_law 679 = .ok (.iconst 0, 1) := by decide +kernel
theorem d_Law_law_680 : decode b_Law_law 680 = .ok (.ireturn, 1) := by decide +kernel
theorem d_Law_law_681 : decode b_Law_law 681 = .ok (.goto 447, 3) := by decide +kernel
theorem d_Law_law_684 : decode b_Law_law 684 = .ok (.aload_n 1, 1) := by decide +kernel
theorem d_Law_law_685 : decode b_Law_law 685 = .ok (.aload_n 0, 1) := by decide +kernel
theorem d_Law_law_686 : decode b_Law_law 686 = .ok (.iload 4, 2) := by decide +kernel
theorem d_Law_law_688 : decode b_Law_law 688 = .ok (.iconst 1, 1) := by decide +kernel
theorem d_Law_law_689 : decode b_Law_law 689 = .ok (.iadd, 1) := by decide +kernel
theorem d_Law_law_690 : decode b_Law_law 690 = .ok (.iaload, 1) := by decide +kernel
theorem d_Law_law_691 : decode b_Law_law 691 = .ok (.aload_n 0, 1) := by decide +kernel
theorem d_Law_law_692 : decode b_Law_law 692 = .ok (.iload 4, 2) := by decide +kernel
theorem d_Law_law_694 : decode b_Law_law 694 = .ok (.iconst 2, 1) := by decide +kernel
theorem d_Law_law_695 : decode b_Law_law 695 = .ok (.iadd, 1) := by decide +kernel
theorem d_Law_law_696 : decode b_Law_law 696 = .ok (.iaload, 1) := by decide +kernel
theorem d_Law_law_697 : decode b_Law_law 697 = .ok (.aload_n 3, 1) := by decide +kernel
theorem d_Law_law_698 : decode b_Law_law 698 = .ok (.invokestatic 110, 3) := by decide +kernel
theorem d_Law_law_701 : decode b_Law_law 701 = .ok (.istore 5, 2) := by decide +kernel
theorem d_Law_law_703 : decode b_Law_law 703 = .ok (.aload_n 2, 1) := by decide +kernel
theorem d_Law_law_704 : decode b_Law_law 704 = .ok (.aload_n 0, 1) := by decide +kernel
theorem d_Law_law_705 : decode b_Law_law 705 = .ok (.iload 4, 2) := by decide +kernel
theorem d_Law_law_707 : decode b_Law_law 707 = .ok (.iconst 1, 1) := by decide +kernel
theorem d_Law_law_708 : decode b_Law_law 708 = .ok (.iadd, 1) := by decide +kernel
