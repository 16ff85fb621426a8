theorem d_law_533 : decode code 533 = .ok (.aload_n 3, 1) := by decide +kernel
theorem d_law_534 : decode code 534 = .ok (.iconst 0, 1) := by decide +kernel
theorem d_law_535 : decode code 535 = .ok (.laload, 1) := by decide +kernel
theorem d_law_536 : decode code 536 = .ok (.iload 6, 2) := by decide +kernel
theorem d_law_538 : decode code 538 = .ok (.i2l, 1) := by decide +kernel
theorem d_law_539 : decode code 539 = .ok (.lcmp, 1) := by decide +kernel
theorem d_law_540 : decode code 540 = .ok (.ifCond .eq 5, 3) := by decide +kernel
theorem d_law_543 : decode code 543 = .ok (.iconst 0, 1) := by decide +kernel
theorem d_law_544 : decode code 544 = .ok (.ireturn, 1) := by decide +kernel
theorem d_law_545 : decode code 545 = .ok (.goto 344, 3) := by decide +kernel
theorem d_law_548 : decode code 548 = .ok (.aload_n 1, 1) := by decide +kernel
theorem d_law_549 : decode code 549 = .ok (.aload_n 0, 1) := by decide +kernel
theorem d_law_550 : decode code 550 = .ok (.iload 4, 2) := by decide +kernel
theorem d_law_552 : decode code 552 = .ok (.iconst 1, 1) := by decide +kernel
theorem d_law_553 : decode code 553 = .ok (.iadd, 1) := by decide +kernel
theorem d_law_554 : decode code 554 = .ok (.iaload, 1) := by decide +kernel
theorem d_law_555 : decode code 555 = .ok (.aload_n 3, 1) := by decide +kernel
theorem d_law_556 : decode code 556 = .ok (.invokestatic 118, 3) := by decide +kernel
theorem d_law_559 : decode code 559 = .ok (.istore 5, 2) := by decide +kernel
theorem d_law_561 : decode code 561 = .ok (.aload_n 2, 1) := by decide +kernel
theorem d_law_562 : decode code 562 = .ok (.aload_n 0, 1) := by decide +kernel
theorem d_law_563 : decode code 563 = .ok (.iload 4, 2) := by decide +kernel
theorem d_law_565 : decode code 565 = .ok (.iconst 1, 1) := by decide +kernel
theorem d_law_566 : decode code 566 = .ok (.iadd, 1) := by decide +kernel
theorem d_law_567 : decode code 567 = .ok (.iaload, 1) := by decide +kernel
theorem d_law_568 : decode code 568 = .ok (.invokevirtual 120, 3) := by decide +kernel
theorem d_law_571 : decode code 571 = .ok (.istore 6, 2) := by decide +kernel
theorem d_law_573 : decode code 573 = .ok (.goto 316, 3) := by decide +kernel
theorem d_law_576 : decode code 576 = .ok (.aload_n 1, 1) := by decide +kernel
theorem d_law_577 : decode code 577 = .ok (.aload_n 0, 1) := by decide +kernel
theorem d_law_578 : decode code 578 = .ok (.iload 4, 2) := by decide +kernel
theorem d_law_580 : decode code 580 = .ok (.iconst 1, 1) := by decide +kernel
theorem d_law_581 : decode code 581 = .ok (.iadd, 1) := by decide +kernel
theorem d_law_582 : decode code 582 = .ok (.iaload, 1) := by decide +kernel
theorem d_law_583 : decode code 583 = .ok (.aload_n 0, 1) := by decide +kernel
theorem d_law_584 : decode code 584 = .ok (.iload 4, 2) := by decide +kernel
theorem d_law_586 : decode code 586 = .ok (.iconst 2, 1) := by decide +kernel
theorem d_law_587 : decode code 587 = .ok (.iadd, 1) := by decide +kernel
theorem d_law_588 : decode code 588 = .ok (.iaload, 1) := by decide +kernel
theorem d_law_589 : decode code 589 = .ok (.ifCond .eq 7, 3) := by decide +kernel
theorem d_law_592 : decode code 592 = .ok (.iconst 1, 1) := by decide +kernel
theorem d_law_593 : decode code 593 = .ok (.goto 4, 3) := by decide +kernel
theorem d_law_596 : decode code 596 = .ok (.iconst 0, 1) := by decide +kernel
theorem d_law_597 : decode code 597 = .ok (.aload_n 3, 1) := by decide +kernel
theorem d_law_598 : decode code 598 = .ok (.invokestatic 121, 3) := by decide +kernel
theorem d_law_601 : decode code 601 = .ok (.istore 5, 2) := by decide +kernel
theorem d_law_603 : decode code 603 = .ok (.aload_n 2, 1) := by decide +kernel
theorem d_law_604 : decode code 604 = .ok (.aload_n 0, 1) := by decide +kernel
theorem d_law_605 : decode code 605 = .ok (.iload 4, 2) := by decide +kernel
theorem d_law_607 : decode code 607 = .ok (.iconst 1, 1) := by decide +kernel
theorem d_law_608 : decode code 608 = .ok (.iadd, 1) := by decide +kernel
theorem d_law_609 : decode code 609 = .ok (.iaload, 1) := by decide +kernel
theorem d_law_610 : decode code 610 = .ok (.aload_n 0, 1) := by decide +kernel
theorem d_law_611 : decode code 611 = .ok (.iload 4, 2) := by decide +kernel
theorem d_law_613 : decode code 613 = .ok (.iconst 2, 1) := by decide +kernel
theorem d_law_614 : decode code 614 = .ok (.iadd, 1) := by decide +kernel
theorem d_law_615 : decode code 615 = .ok (.iaload, 1) := by decide +kernel
theorem d_law_616 : decode code 616 = .ok (.ifCond .eq 7, 3) := by decide +kernel
theorem d_law_619 : decode code 619 = .ok (.iconst 1, 1) := by decide +kernel
theorem d_law_620 : decode code 620 = .ok (.goto 4, 3) := by decide +kernel
