/-! THE LAW: decode rows -/
theorem d_Law_law_616 : decode b_Law_law 616 = .ok (.aload_n 2, 1) := by decide +kernel
theorem d_Law_law_617 : decode b_Law_law 617 = .ok (.aload_n 0, 1) := by decide +kernel
theorem d_Law_law_618 : decode b_Law_law 618 = .ok (.iload 4, 2) := by decide +kernel
theorem d_Law_law_620 : decode b_Law_law 620 = .ok (.iconst 1, 1) := by decide +kernel
theorem d_Law_law_621 : decode b_Law_law 621 = .ok (.iadd, 1) := by decide +kernel
theorem d_Law_law_622 : decode b_Law_law 622 = .ok (.iaload, 1) := by decide +kernel
theorem d_Law_law_623 : decode b_Law_law 623 = .ok (.aload_n 0, 1) := by decide +kernel
theorem d_Law_law_624 : decode b_Law_law 624 = .ok (.iload 4, 2) := by decide +kernel
theorem d_Law_law_626 : decode b_Law_law 626 = .ok (.iconst 2, 1) := by decide +kernel
theorem d_Law_law_627 : decode b_Law_law 627 = .ok (.iadd, 1) := by decide +kernel
theorem d_Law_law_628 : decode b_Law_law 628 = .ok (.iaload, 1) := by decide +kernel
theorem d_Law_law_629 : decode b_Law_law 629 = .ok (.invokevirtual 118, 3) := by decide +kernel
theorem d_Law_law_632 : decode b_Law_law 632 = .ok (.istore 6, 2) := by decide +kernel
theorem d_Law_law_634 : decode b_Law_law 634 = .ok (.goto 116, 3) := by decide +kernel
theorem d_Law_law_637 : decode b_Law_law 637 = .ok (.aload_n 1, 1) := by decide +kernel
theorem d_Law_law_638 : decode b_Law_law 638 = .ok (.aload_n 0, 1) := by decide +kernel
theorem d_Law_law_639 : decode b_Law_law 639 = .ok (.iload 4, 2) := by decide +kernel
theorem d_Law_law_641 : decode b_Law_law 641 = .ok (.iconst 1, 1) := by decide +kernel
theorem d_Law_law_642 : decode b_Law_law 642 = .ok (.iadd, 1) := by decide +kernel
theorem d_Law_law_643 : decode b_Law_law 643 = .ok (.iaload, 1) := by decide +kernel
theorem d_Law_law_644 : decode b_Law_law 644 = .ok (.aload_n 3, 1) := by decide +kernel
theorem d_Law_law_645 : decode b_Law_law 645 = .ok (.invokestatic 119, 3) := by decide +kernel
theorem d_Law_law_648 : decode b_Law_law 648 = .ok (.istore 5, 2) := by decide +kernel
theorem d_Law_law_650 : decode b_Law_law 650 = .ok (.aload_n 2, 1) := by decide +kernel
theorem d_Law_law_651 : decode b_Law_law 651 = .ok (.aload_n 0, 1) := by decide +kernel
theorem d_Law_law_652 : decode b_Law_law 652 = .ok (.iload 4, 2) := by decide +kernel
theorem d_Law_law_654 : decode b_Law_law 654 = .ok (.iconst 1, 1) := by decide +kernel
theorem d_Law_law_655 : decode b_Law_law 655 = .ok (.iadd, 1) := by decide +kernel
theorem d_Law_law_656 : decode b_Law_law 656 = .ok (.iaload, 1) := by decide +kernel
theorem d_Law_law_657 : decode b_Law_law 657 = .ok (.invokevirtual 121, 3) := by decide +kernel
theorem d_Law_law_660 : decode b_Law_law 660 = .ok (.istore 6, 2) := by decide +kernel
theorem d_Law_law_662 : decode b_Law_law 662 = .ok (.goto 88, 3) := by decide +kernel
theorem d_Law_law_665 : decode b_Law_law 665 = .ok (.aload_n 1, 1) := by decide +kernel
theorem d_Law_law_666 : decode b_Law_law 666 = .ok (.aload_n 3, 1) := by decide +kernel
theorem d_Law_law_667 : decode b_Law_law 667 = .ok (.invokestatic 122, 3) := by decide +kernel
theorem d_Law_law_670 : decode b_Law_law 670 = .ok (.istore 5, 2) := by decide +kernel
theorem d_Law_law_672 : decode b_Law_law 672 = .ok (.aload_n 2, 1) := by decide +kernel
theorem d_Law_law_673 : decode b_Law_law 673 = .ok (.invokevirtual 124, 3) := by decide +kernel
theorem d_Law_law_676 : decode b_Law_law 676 = .ok (.istore 6, 2) := by decide +kernel
theorem d_Law_law_678 : decode b_Law_law 678 = .ok (.goto 72, 3) := by decide +kernel
theorem d_Law_law_681 : decode b_Law_law 681 = .ok (.aload_n 1, 1) := by decide +kernel
theorem d_Law_law_682 : decode b_Law_law 682 = .ok (.aload_n 0, 1) := by decide +kernel
theorem d_Law_law_683 : decode b_Law_law 683 = .ok (.iload 4, 2) := by decide +kernel
theorem d_Law_law_685 : decode b_Law_law 685 = .ok (.iconst 1, 1) := by decide +kernel
theorem d_Law_law_686 : decode b_Law_law 686 = .ok (.iadd, 1) := by decide +kernel
theorem d_Law_law_687 : decode b_Law_law 687 = .ok (.iaload, 1) := by decide +kernel
theorem d_Law_law_688 : decode b_Law_law 688 = .ok (.aload_n 0, 1) := by decide +kernel
theorem d_Law_law_689 : decode b_Law_law 689 = .ok (.iload 4, 2) := by decide +kernel
theorem d_Law_law_691 : decode b_Law_law 691 = .ok (.iconst 2, 1) := by decide +kernel
theorem d_Law_law_692 : decode b_Law_law 692 = .ok (.iadd, 1) := by decide +kernel
