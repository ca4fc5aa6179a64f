/-! THE LAW: decode rows -/
theorem d_Law_law_609 : decode b_Law_law 609 = .ok (.aload_n 3, 1) := by decide +kernel
theorem d_Law_law_610 : decode b_Law_law 610 = .ok (.invokestatic 116, 3) := by decide +kernel
theorem d_Law_law_613 : decode b_Law_law 613 = .ok (.istore 5, 2) := by decide +kernel
theorem d_Law_law_615 : decode b_Law_law 615 = .ok (.aload_n 2, 1) := by decide +kernel
theorem d_Law_law_616 : decode b_Law_law 616 = .ok (.aload_n 0, 1) := by decide +kernel
theorem d_Law_law_617 : decode b_Law_law 617 = .ok (.iload 4, 2) := by decide +kernel
theorem d_Law_law_619 : decode b_Law_law 619 = .ok (.iconst 1, 1) := by decide +kernel
theorem d_Law_law_620 : decode b_Law_law 620 = .ok (.iadd, 1) := by decide +kernel
theorem d_Law_law_621 : decode b_Law_law 621 = .ok (.iaload, 1) := by decide +kernel
theorem d_Law_law_622 : decode b_Law_law 622 = .ok (.invokevirtual 118, 3) := by decide +kernel
theorem d_Law_law_625 : decode b_Law_law 625 = .ok (.istore 6, 2) := by decide +kernel
theorem d_Law_law_627 : decode b_Law_law 627 = .ok (.goto 88, 3) := by decide +kernel
theorem d_Law_law_630 : decode b_Law_law 630 = .ok (.aload_n 1, 1) := by decide +kernel
theorem d_Law_law_631 : decode b_Law_law 631 = .ok (.aload_n 3, 1) := by decide +kernel
theorem d_Law_law_632 : decode b_Law_law 632 = .ok (.invokestatic 119, 3) := by decide +kernel
theorem d_Law_law_635 : decode b_Law_law 635 = .ok (.istore 5, 2) := by decide +kernel
theorem d_Law_law_637 : decode b_Law_law 637 = .ok (.aload_n 2, 1) := by decide +kernel
theorem d_Law_law_638 : decode b_Law_law 638 = .ok (.invokevirtual 121, 3) := by decide +kernel
theorem d_Law_law_641 : decode b_Law_law 641 = .ok (.istore 6, 2) := by decide +kernel
theorem d_Law_law_643 : decode b_Law_law 643 = .ok (.goto 72, 3) := by decide +kernel
theorem d_Law_law_646 : decode b_Law_law 646 = .ok (.aload_n 1, 1) := by decide +kernel
theorem d_Law_law_647 : decode b_Law_law 647 = .ok (.aload_n 0, 1) := by decide +kernel
theorem d_Law_law_648 : decode b_Law_law 648 = .ok (.iload 4, 2) := by decide +kernel
theorem d_Law_law_650 : decode b_Law_law 650 = .ok (.iconst 1, 1) := by decide +kernel
theorem d_Law_law_651 : decode b_Law_law 651 = .ok (.iadd, 1) := by decide +kernel
theorem d_Law_law_652 : decode b_Law_law 652 = .ok (.iaload, 1) := by decide +kernel
theorem d_Law_law_653 : decode b_Law_law 653 = .ok (.aload_n 0, 1) := by decide +kernel
theorem d_Law_law_654 : decode b_Law_law 654 = .ok (.iload 4, 2) := by decide +kernel
theorem d_Law_law_656 : decode b_Law_law 656 = .ok (.iconst 2, 1) := by decide +kernel
theorem d_Law_law_657 : decode b_Law_law 657 = .ok (.iadd, 1) := by decide +kernel
theorem d_Law_law_658 : decode b_Law_law 658 = .ok (.iaload, 1) := by decide +kernel
theorem d_Law_law_659 : decode b_Law_law 659 = .ok (.aload_n 3, 1) := by decide +kernel
theorem d_Law_law_660 : decode b_Law_law 660 = .ok (.invokestatic 122, 3) := by decide +kernel
theorem d_Law_law_663 : decode b_Law_law 663 = .ok (.istore 5, 2) := by decide +kernel
theorem d_Law_law_665 : decode b_Law_law 665 = .ok (.aload_n 2, 1) := by decide +kernel
theorem d_Law_law_666 : decode b_Law_law 666 = .ok (.aload_n 0, 1) := by decide +kernel
theorem d_Law_law_667 : decode b_Law_law 667 = .ok (.iload 4, 2) := by decide +kernel
theorem d_Law_law_669 : decode b_Law_law 669 = .ok (.iconst 1, 1) := by decide +kernel
theorem d_Law_law_670 : decode b_Law_law 670 = .ok (.iadd, 1) := by decide +kernel
theorem d_Law_law_671 : decode b_Law_law 671 = .ok (.iaload, 1) := by decide +kernel
theorem d_Law_law_672 : decode b_Law_law 672 = .ok (.aload_n 0, 1) := by decide +kernel
theorem d_Law_law_673 : decode b_Law_law 673 = .ok (.iload 4, 2) := by decide +kernel
theorem d_Law_law_675 : decode b_Law_law 675 = .ok (.iconst 2, 1) := by decide +kernel
theorem d_Law_law_676 : decode b_Law_law 676 = .ok (.iadd, 1) := by decide +kernel
theorem d_Law_law_677 : decode b_Law_law 677 = .ok (.iaload, 1) := by decide +kernel
theorem d_Law_law_678 : decode b_Law_law 678 = .ok (.invokevirtual 124, 3) := by decide +kernel
theorem d_Law_law_681 : decode b_Law_law 681 = .ok (.istore 6, 2) := by decide +kernel
theorem d_Law_law_683 : decode b_Law_law 683 = .ok (.goto 32, 3) := by decide +kernel
theorem d_Law_law_686 : decode b_Law_law 686 = .ok (.aload_n 1, 1) := by decide +kernel
theorem d_Law_law_687 : decode b_Law_law 687 = .ok (.aload_n 3, 1) := by decide +kernel
