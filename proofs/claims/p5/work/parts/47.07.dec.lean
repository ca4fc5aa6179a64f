/-! THE LAW: decode rows -/
theorem d_Law_law_543 : decode b_Law_law 543 = .ok (.aload_n 0, 1) := by decide +kernel
theorem d_Law_law_544 : decode b_Law_law 544 = .ok (.iload 4, 2) := by decide +kernel
theorem d_Law_law_546 : decode b_Law_law 546 = .ok (.iconst 2, 1) := by decide +kernel
theorem d_Law_law_547 : decode b_Law_law 547 = .ok (.iadd, 1) := by decide +kernel
theorem d_Law_law_548 : decode b_Law_law 548 = .ok (.iaload, 1) := by decide +kernel
theorem d_Law_law_549 : decode b_Law_law 549 = .ok (.invokevirtual 112, 3) := by decide +kernel
theorem d_Law_law_552 : decode b_Law_law 552 = .ok (.istore 6, 2) := by decide +kernel
theorem d_Law_law_554 : decode b_Law_law 554 = .ok (.goto 196, 3) := by decide +kernel
theorem d_Law_law_557 : decode b_Law_law 557 = .ok (.aload_n 1, 1) := by decide +kernel
theorem d_Law_law_558 : decode b_Law_law 558 = .ok (.aload_n 0, 1) := by decide +kernel
theorem d_Law_law_559 : decode b_Law_law 559 = .ok (.iload 4, 2) := by decide +kernel
theorem d_Law_law_561 : decode b_Law_law 561 = .ok (.iconst 1, 1) := by decide +kernel
theorem d_Law_law_562 : decode b_Law_law 562 = .ok (.iadd, 1) := by decide +kernel
theorem d_Law_law_563 : decode b_Law_law 563 = .ok (.iaload, 1) := by decide +kernel
theorem d_Law_law_564 : decode b_Law_law 564 = .ok (.aload_n 0, 1) := by decide +kernel
theorem d_Law_law_565 : decode b_Law_law 565 = .ok (.iload 4, 2) := by decide +kernel
theorem d_Law_law_567 : decode b_Law_law 567 = .ok (.iconst 2, 1) := by decide +kernel
theorem d_Law_law_568 : decode b_Law_law 568 = .ok (.iadd, 1) := by decide +kernel
theorem d_Law_law_569 : decode b_Law_law 569 = .ok (.iaload, 1) := by decide +kernel
theorem d_Law_law_570 : decode b_Law_law 570 = .ok (.aload_n 3, 1) := by decide +kernel
theorem d_Law_law_571 : decode b_Law_law 571 = .ok (.invokestatic 113, 3) := by decide +kernel
theorem d_Law_law_574 : decode b_Law_law 574 = .ok (.istore 5, 2) := by decide +kernel
theorem d_Law_law_576 : decode b_Law_law 576 = .ok (.aload_n 2, 1) := by decide +kernel
theorem d_Law_law_577 : decode b_Law_law 577 = .ok (.aload_n 0, 1) := by decide +kernel
theorem d_Law_law_578 : decode b_Law_law 578 = .ok (.iload 4, 2) := by decide +kernel
theorem d_Law_law_580 : decode b_Law_law 580 = .ok (.iconst 1, 1) := by decide +kernel
theorem d_Law_law_581 : decode b_Law_law 581 = .ok (.iadd, 1) := by decide +kernel
theorem d_Law_law_582 : decode b_Law_law 582 = .ok (.iaload, 1) := by decide +kernel
theorem d_Law_law_583 : decode b_Law_law 583 = .ok (.aload_n 0, 1) := by decide +kernel
theorem d_Law_law_584 : decode b_Law_law 584 = .ok (.iload 4, 2) := by decide +kernel
theorem d_Law_law_586 : decode b_Law_law 586 = .ok (.iconst 2, 1) := by decide +kernel
theorem d_Law_law_587 : decode b_Law_law 587 = .ok (.iadd, 1) := by decide +kernel
theorem d_Law_law_588 : decode b_Law_law 588 = .ok (.iaload, 1) := by decide +kernel
theorem d_Law_law_589 : decode b_Law_law 589 = .ok (.invokevirtual 115, 3) := by decide +kernel
theorem d_Law_law_592 : decode b_Law_law 592 = .ok (.istore 6, 2) := by decide +kernel
theorem d_Law_law_594 : decode b_Law_law 594 = .ok (.goto 156, 3) := by decide +kernel
theorem d_Law_law_597 : decode b_Law_law 597 = .ok (.aload_n 1, 1) := by decide +kernel
theorem d_Law_law_598 : decode b_Law_law 598 = .ok (.aload_n 0, 1) := by decide +kernel
theorem d_Law_law_599 : decode b_Law_law 599 = .ok (.iload 4, 2) := by decide +kernel
theorem d_Law_law_601 : decode b_Law_law 601 = .ok (.iconst 1, 1) := by decide +kernel
theorem d_Law_law_602 : decode b_Law_law 602 = .ok (.iadd, 1) := by decide +kernel
theorem d_Law_law_603 : decode b_Law_law 603 = .ok (.iaload, 1) := by decide +kernel
theorem d_Law_law_604 : decode b_Law_law 604 = .ok (.aload_n 0, 1) := by decide +kernel
theorem d_Law_law_605 : decode b_Law_law 605 = .ok (.iload 4, 2) := by decide +kernel
theorem d_Law_law_607 : decode b_Law_law 607 = .ok (.iconst 2, 1) := by decide +kernel
theorem d_Law_law_608 : decode b_Law_law 608 = .ok (.iadd, 1) := by decide +kernel
theorem d_Law_law_609 : decode b_Law_law 609 = .ok (.iaload, 1) := by decide +kernel
theorem d_Law_law_610 : decode b_Law_law 610 = .ok (.aload_n 3, 1) := by decide +kernel
theorem d_Law_law_611 : decode b_Law_law 611 = .ok (.invokestatic 116, 3) := by decide +kernel
theorem d_Law_law_614 : decode b_Law_law 614 = .ok (.istore 5, 2) := by decide +kernel
