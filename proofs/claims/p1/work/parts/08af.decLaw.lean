theorem d_law_543 : decode code 543 = .ok (.iaload, 1) := by decide +kernel
theorem d_law_544 : decode code 544 = .ok (.invokevirtual 108, 3) := by decide +kernel
theorem d_law_547 : decode code 547 = .ok (.istore 6, 2) := by decide +kernel
theorem d_law_549 : decode code 549 = .ok (.aload_n 2, 1) := by decide +kernel
theorem d_law_550 : decode code 550 = .ok (.invokevirtual 86, 3) := by decide +kernel
theorem d_law_553 : decode code 553 = .ok (.iload 5, 2) := by decide +kernel
theorem d_law_555 : decode code 555 = .ok (.if_icmp .eq 5, 3) := by decide +kernel
theorem d_law_558 : decode code 558 = .ok (.iconst 0, 1) := by decide +kernel
theorem d_law_559 : decode code 559 = .ok (.ireturn, 1) := by decide +kernel
theorem d_law_560 : decode code 560 = .ok (.iload 5, 2) := by decide +kernel
theorem d_law_562 : decode code 562 = .ok (.ifCond .ne 22, 3) := by decide +kernel
theorem d_law_565 : decode code 565 = .ok (.aload_n 3, 1) := by decide +kernel
theorem d_law_566 : decode code 566 = .ok (.iconst 0, 1) := by decide +kernel
theorem d_law_567 : decode code 567 = .ok (.laload, 1) := by decide +kernel
theorem d_law_568 : decode code 568 = .ok (.iload 6, 2) := by decide +kernel
theorem d_law_570 : decode code 570 = .ok (.ifCond .eq 7, 3) := by decide +kernel
theorem d_law_573 : decode code 573 = .ok (.lconst 1, 1) := by decide +kernel
theorem d_law_574 : decode code 574 = .ok (.goto 4, 3) := by decide +kernel
theorem d_law_577 : decode code 577 = .ok (.lconst 0, 1) := by decide +kernel
theorem d_law_578 : decode code 578 = .ok (.lcmp, 1) := by decide +kernel
theorem d_law_579 : decode code 579 = .ok (.ifCond .eq 5, 3) := by decide +kernel
theorem d_law_582 : decode code 582 = .ok (.iconst 0, 1) := by decide +kernel
theorem d_law_583 : decode code 583 = .ok (.ireturn, 1) := by decide +kernel
theorem d_law_584 : decode code 584 = .ok (.goto 767, 3) := by decide +kernel
theorem d_law_587 : decode code 587 = .ok (.aload_n 1, 1) := by decide +kernel
theorem d_law_588 : decode code 588 = .ok (.aload_n 0, 1) := by decide +kernel
theorem d_law_589 : decode code 589 = .ok (.iload 4, 2) := by decide +kernel
theorem d_law_591 : decode code 591 = .ok (.iconst 1, 1) := by decide +kernel
theorem d_law_592 : decode code 592 = .ok (.iadd, 1) := by decide +kernel
theorem d_law_593 : decode code 593 = .ok (.iaload, 1) := by decide +kernel
theorem d_law_594 : decode code 594 = .ok (.aload_n 0, 1) := by decide +kernel
theorem d_law_595 : decode code 595 = .ok (.iload 4, 2) := by decide +kernel
theorem d_law_597 : decode code 597 = .ok (.iconst 2, 1) := by decide +kernel
theorem d_law_598 : decode code 598 = .ok (.iadd, 1) := by decide +kernel
theorem d_law_599 : decode code 599 = .ok (.iaload, 1) := by decide +kernel
theorem d_law_600 : decode code 600 = .ok (.aload_n 3, 1) := by decide +kernel
theorem d_law_601 : decode code 601 = .ok (.invokestatic 109, 3) := by decide +kernel
theorem d_law_604 : decode code 604 = .ok (.istore 5, 2) := by decide +kernel
theorem d_law_606 : decode code 606 = .ok (.aload_n 2, 1) := by decide +kernel
theorem d_law_607 : decode code 607 = .ok (.aload_n 0, 1) := by decide +kernel
theorem d_law_608 : decode code 608 = .ok (.iload 4, 2) := by decide +kernel
theorem d_law_610 : decode code 610 = .ok (.iconst 1, 1) := by decide +kernel
theorem d_law_611 : decode code 611 = .ok (.iadd, 1) := by decide +kernel
theorem d_law_612 : decode code 612 = .ok (.iaload, 1) := by decide +kernel
theorem d_law_613 : decode code 613 = .ok (.aload_n 0, 1) := by decide +kernel
theorem d_law_614 : decode code 614 = .ok (.iload 4, 2) := by decide +kernel
theorem d_law_616 : decode code 616 = .ok (.iconst 2, 1) := by decide +kernel
theorem d_law_617 : decode code 617 = .ok (.iadd, 1) := by decide +kernel
theorem d_law_618 : decode code 618 = .ok (.iaload, 1) := by decide +kernel
theorem d_law_619 : decode code 619 = .ok (.invokevirtual 111, 3) := by decide +kernel
theorem d_law_622 : decode code 622 = .ok (.istore 6, 2) := by decide +kernel
theorem d_law_624 : decode code 624 = .ok (.aload_n 2, 1) := by decide +kernel
theorem d_law_625 : decode code 625 = .ok (.invokevirtual 86, 3) := by decide +kernel
theorem d_law_628 : decode code 628 = .ok (.iload 5, 2) := by decide +kernel
theorem d_law_630 : decode code 630 = .ok (.if_icmp .eq 5, 3) := by decide +kernel
theorem d_law_633 : decode code 633 = .ok (.iconst 0, 1) := by decide +kernel
theorem d_law_634 : decode code 634 = .ok (.ireturn, 1) := by decide +kernel
theorem d_law_635 : decode code 635 = .ok (.iload 5, 2) := by decide +kernel
theorem d_law_637 : decode code 637 = .ok (.ifCond .ne 15, 3) := by decide +kernel
theorem d_law_640 : decode code 640 = .ok (.aload_n 3, 1) := by decide +kernel
