theorem d_law_453 : decode code 453 = .ok (.goto 898, 3) := by decide +kernel
theorem d_law_456 : decode code 456 = .ok (.aload_n 1, 1) := by decide +kernel
theorem d_law_457 : decode code 457 = .ok (.aload_n 0, 1) := by decide +kernel
theorem d_law_458 : decode code 458 = .ok (.iload 4, 2) := by decide +kernel
theorem d_law_460 : decode code 460 = .ok (.iconst 1, 1) := by decide +kernel
theorem d_law_461 : decode code 461 = .ok (.iadd, 1) := by decide +kernel
theorem d_law_462 : decode code 462 = .ok (.iaload, 1) := by decide +kernel
theorem d_law_463 : decode code 463 = .ok (.aload_n 3, 1) := by decide +kernel
theorem d_law_464 : decode code 464 = .ok (.invokestatic 101, 3) := by decide +kernel
theorem d_law_467 : decode code 467 = .ok (.istore 5, 2) := by decide +kernel
theorem d_law_469 : decode code 469 = .ok (.aload_n 2, 1) := by decide +kernel
theorem d_law_470 : decode code 470 = .ok (.aload_n 0, 1) := by decide +kernel
theorem d_law_471 : decode code 471 = .ok (.iload 4, 2) := by decide +kernel
theorem d_law_473 : decode code 473 = .ok (.iconst 1, 1) := by decide +kernel
theorem d_law_474 : decode code 474 = .ok (.iadd, 1) := by decide +kernel
theorem d_law_475 : decode code 475 = .ok (.iaload, 1) := by decide +kernel
theorem d_law_476 : decode code 476 = .ok (.invokevirtual 104, 3) := by decide +kernel
theorem d_law_479 : decode code 479 = .ok (.istore 6, 2) := by decide +kernel
theorem d_law_481 : decode code 481 = .ok (.aload_n 2, 1) := by decide +kernel
theorem d_law_482 : decode code 482 = .ok (.invokevirtual 86, 3) := by decide +kernel
theorem d_law_485 : decode code 485 = .ok (.iload 5, 2) := by decide +kernel
theorem d_law_487 : decode code 487 = .ok (.if_icmp .eq 5, 3) := by decide +kernel
theorem d_law_490 : decode code 490 = .ok (.iconst 0, 1) := by decide +kernel
theorem d_law_491 : decode code 491 = .ok (.ireturn, 1) := by decide +kernel
theorem d_law_492 : decode code 492 = .ok (.iload 5, 2) := by decide +kernel
theorem d_law_494 : decode code 494 = .ok (.ifCond .ne 15, 3) := by decide +kernel
theorem d_law_497 : decode code 497 = .ok (.aload_n 3, 1) := by decide +kernel
theorem d_law_498 : decode code 498 = .ok (.iconst 0, 1) := by decide +kernel
theorem d_law_499 : decode code 499 = .ok (.laload, 1) := by decide +kernel
theorem d_law_500 : decode code 500 = .ok (.iload 6, 2) := by decide +kernel
theorem d_law_502 : decode code 502 = .ok (.i2l, 1) := by decide +kernel
theorem d_law_503 : decode code 503 = .ok (.lcmp, 1) := by decide +kernel
theorem d_law_504 : decode code 504 = .ok (.ifCond .eq 5, 3) := by decide +kernel
theorem d_law_507 : decode code 507 = .ok (.iconst 0, 1) := by decide +kernel
theorem d_law_508 : decode code 508 = .ok (.ireturn, 1) := by decide +kernel
theorem d_law_509 : decode code 509 = .ok (.goto 842, 3) := by decide +kernel
theorem d_law_512 : decode code 512 = .ok (.aload_n 1, 1) := by decide +kernel
theorem d_law_513 : decode code 513 = .ok (.aload_n 0, 1) := by decide +kernel
theorem d_law_514 : decode code 514 = .ok (.iload 4, 2) := by decide +kernel
theorem d_law_516 : decode code 516 = .ok (.iconst 1, 1) := by decide +kernel
theorem d_law_517 : decode code 517 = .ok (.iadd, 1) := by decide +kernel
theorem d_law_518 : decode code 518 = .ok (.iaload, 1) := by decide +kernel
theorem d_law_519 : decode code 519 = .ok (.aload_n 0, 1) := by decide +kernel
theorem d_law_520 : decode code 520 = .ok (.iload 4, 2) := by decide +kernel
theorem d_law_522 : decode code 522 = .ok (.iconst 2, 1) := by decide +kernel
theorem d_law_523 : decode code 523 = .ok (.iadd, 1) := by decide +kernel
theorem d_law_524 : decode code 524 = .ok (.iaload, 1) := by decide +kernel
theorem d_law_525 : decode code 525 = .ok (.aload_n 3, 1) := by decide +kernel
theorem d_law_526 : decode code 526 = .ok (.invokestatic 105, 3) := by decide +kernel
theorem d_law_529 : decode code 529 = .ok (.istore 5, 2) := by decide +kernel
theorem d_law_531 : decode code 531 = .ok (.aload_n 2, 1) := by decide +kernel
theorem d_law_532 : decode code 532 = .ok (.aload_n 0, 1) := by decide +kernel
theorem d_law_533 : decode code 533 = .ok (.iload 4, 2) := by decide +kernel
theorem d_law_535 : decode code 535 = .ok (.iconst 1, 1) := by decide +kernel
theorem d_law_536 : decode code 536 = .ok (.iadd, 1) := by decide +kernel
theorem d_law_537 : decode code 537 = .ok (.iaload, 1) := by decide +kernel
theorem d_law_538 : decode code 538 = .ok (.aload_n 0, 1) := by decide +kernel
theorem d_law_539 : decode code 539 = .ok (.iload 4, 2) := by decide +kernel
theorem d_law_541 : decode code 541 = .ok (.iconst 2, 1) := by decide +kernel
theorem d_law_542 : decode code 542 = .ok (.iadd, 1) := by decide +kernel
