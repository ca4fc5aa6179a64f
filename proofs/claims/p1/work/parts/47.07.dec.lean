/-! THE LAW: decode rows -/
theorem d_Law_law_557 : decode b_Law_law 557 = .ok (.goto 571, 3) := by decide +kernel
theorem d_Law_law_560 : decode b_Law_law 560 = .ok (.aload_n 1, 1) := by decide +kernel
theorem d_Law_law_561 : decode b_Law_law 561 = .ok (.aload_n 0, 1) := by decide +kernel
theorem d_Law_law_562 : decode b_Law_law 562 = .ok (.iload 4, 2) := by decide +kernel
theorem d_Law_law_564 : decode b_Law_law 564 = .ok (.iconst 1, 1) := by decide +kernel
theorem d_Law_law_565 : decode b_Law_law 565 = .ok (.iadd, 1) := by decide +kernel
theorem d_Law_law_566 : decode b_Law_law 566 = .ok (.iaload, 1) := by decide +kernel
theorem d_Law_law_567 : decode b_Law_law 567 = .ok (.aload_n 3, 1) := by decide +kernel
theorem d_Law_law_568 : decode b_Law_law 568 = .ok (.invokestatic 104, 3) := by decide +kernel
theorem d_Law_law_571 : decode b_Law_law 571 = .ok (.istore 5, 2) := by decide +kernel
theorem d_Law_law_573 : decode b_Law_law 573 = .ok (.aload_n 2, 1) := by decide +kernel
theorem d_Law_law_574 : decode b_Law_law 574 = .ok (.aload_n 0, 1) := by decide +kernel
theorem d_Law_law_575 : decode b_Law_law 575 = .ok (.iload 4, 2) := by decide +kernel
theorem d_Law_law_577 : decode b_Law_law 577 = .ok (.iconst 1, 1) := by decide +kernel
theorem d_Law_law_578 : decode b_Law_law 578 = .ok (.iadd, 1) := by decide +kernel
theorem d_Law_law_579 : decode b_Law_law 579 = .ok (.iaload, 1) := by decide +kernel
theorem d_Law_law_580 : decode b_Law_law 580 = .ok (.invokevirtual 106, 3) := by decide +kernel
theorem d_Law_law_583 : decode b_Law_law 583 = .ok (.istore 6, 2) := by decide +kernel
theorem d_Law_law_585 : decode b_Law_law 585 = .ok (.aload_n 2, 1) := by decide +kernel
theorem d_Law_law_586 : decode b_Law_law 586 = .ok (.invokevirtual 83, 3) := by decide +kernel
theorem d_Law_law_589 : decode b_Law_law 589 = .ok (.iload 5, 2) := by decide +kernel
theorem d_Law_law_591 : decode b_Law_law 591 = .ok (.if_icmp .eq 5, 3) := by decide +kernel
theorem d_Law_law_594 : decode b_Law_law 594 = .ok (.iconst 0, 1) := by decide +kernel
theorem d_Law_law_595 : decode b_Law_law 595 = .ok (.ireturn, 1) := by decide +kernel
theorem d_Law_law_596 : decode b_Law_law 596 = .ok (.iload 5, 2) := by decide +kernel
theorem d_Law_law_598 : decode b_Law_law 598 = .ok (.ifCond .ne 15, 3) := by decide +kernel
theorem d_Law_law_601 : decode b_Law_law 601 = .ok (.aload_n 3, 1) := by decide +kernel
theorem d_Law_law_602 : decode b_Law_law 602 = .ok (.iconst 0, 1) := by decide +kernel
theorem d_Law_law_603 : decode b_Law_law 603 = .ok (.laload, 1) := by decide +kernel
theorem d_Law_law_604 : decode b_Law_law 604 = .ok (.iload 6, 2) := by decide +kernel
theorem d_Law_law_606 : decode b_Law_law 606 = .ok (.i2l, 1) := by decide +kernel
theorem d_Law_law_607 : decode b_Law_law 607 = .ok (.lcmp, 1) := by decide +kernel
theorem d_Law_law_608 : decode b_Law_law 608 = .ok (.ifCond .eq 5, 3) := by decide +kernel
theorem d_Law_law_611 : decode b_Law_law 611 = .ok (.iconst 0, 1) := by decide +kernel
theorem d_Law_law_612 : decode b_Law_law 612 = .ok (.ireturn, 1) := by decide +kernel
theorem d_Law_law_613 : decode b_Law_law 613 = .ok (.goto 515, 3) := by decide +kernel
theorem d_Law_law_616 : decode b_Law_law 616 = .ok (.aload_n 1, 1) := by decide +kernel
theorem d_Law_law_617 : decode b_Law_law 617 = .ok (.aload_n 0, 1) := by decide +kernel
theorem d_Law_law_618 : decode b_Law_law 618 = .ok (.iload 4, 2) := by decide +kernel
theorem d_Law_law_620 : decode b_Law_law 620 = .ok (.iconst 1, 1) := by decide +kernel
theorem d_Law_law_621 : decode b_Law_law 621 = .ok (.iadd, 1) := by decide +kernel
theorem d_Law_law_622 : decode b_Law_law 622 = .ok (.iaload, 1) := by decide +kernel
theorem d_Law_law_623 : decode b_Law_law 623 = .ok (.aload_n 0, 1) := by decide +kernel
theorem d_Law_law_624 : decode b_Law_law 624 = .ok (.iload 4, 2) := by decide +kernel
theorem d_Law_law_626 : decode b_Law_law 626 = .ok (.iconst 2, 1) := by decide +kernel
theorem d_Law_law_627 : decode b_Law_law 627 = .ok (.iadd, 1) := by decide +kernel
theorem d_Law_law_628 : decode b_Law_law 628 = .ok (.iaload, 1) := by decide +kernel
theorem d_Law_law_629 : decode b_Law_law 629 = .ok (.aload_n 3, 1) := by decide +kernel
theorem d_Law_law_630 : decode b_Law_law 630 = .ok (.invokestatic 107, 3) := by decide +kernel
theorem d_Law_law_633 : decode b_Law_law 633 = .ok (.istore 5, 2) := by decide +kernel
