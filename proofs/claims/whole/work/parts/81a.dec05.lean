theorem d_law_524 : decode code 524 = .ok (.iconst 0, 1) := by decide +kernel
theorem d_law_525 : decode code 525 = .ok (.ireturn, 1) := by decide +kernel
theorem d_law_526 : decode code 526 = .ok (.iload 5, 2) := by decide +kernel
theorem d_law_528 : decode code 528 = .ok (.ifCond .ne 15, 3) := by decide +kernel
theorem d_law_531 : decode code 531 = .ok (.aload_n 3, 1) := by decide +kernel
theorem d_law_532 : decode code 532 = .ok (.iconst 0, 1) := by decide +kernel
theorem d_law_533 : decode code 533 = .ok (.laload, 1) := by decide +kernel
theorem d_law_534 : decode code 534 = .ok (.iload 6, 2) := by decide +kernel
theorem d_law_536 : decode code 536 = .ok (.i2l, 1) := by decide +kernel
theorem d_law_537 : decode code 537 = .ok (.lcmp, 1) := by decide +kernel
theorem d_law_538 : decode code 538 = .ok (.ifCond .eq 5, 3) := by decide +kernel
theorem d_law_541 : decode code 541 = .ok (.iconst 0, 1) := by decide +kernel
theorem d_law_542 : decode code 542 = .ok (.ireturn, 1) := by decide +kernel
theorem d_law_543 : decode code 543 = .ok (.goto 690, 3) := by decide +kernel
theorem d_law_546 : decode code 546 = .ok (.aload_n 1, 1) := by decide +kernel
theorem d_law_547 : decode code 547 = .ok (.aload_n 0, 1) := by decide +kernel
theorem d_law_548 : decode code 548 = .ok (.iload 4, 2) := by decide +kernel
theorem d_law_550 : decode code 550 = .ok (.iconst 1, 1) := by decide +kernel
theorem d_law_551 : decode code 551 = .ok (.iadd, 1) := by decide +kernel
theorem d_law_552 : decode code 552 = .ok (.iaload, 1) := by decide +kernel
theorem d_law_553 : decode code 553 = .ok (.aload_n 0, 1) := by decide +kernel
theorem d_law_554 : decode code 554 = .ok (.iload 4, 2) := by decide +kernel
theorem d_law_556 : decode code 556 = .ok (.iconst 2, 1) := by decide +kernel
theorem d_law_557 : decode code 557 = .ok (.iadd, 1) := by decide +kernel
theorem d_law_558 : decode code 558 = .ok (.iaload, 1) := by decide +kernel
theorem d_law_559 : decode code 559 = .ok (.aload_n 3, 1) := by decide +kernel
theorem d_law_560 : decode code 560 = .ok (.invokestatic 101, 3) := by decide +kernel
theorem d_law_563 : decode code 563 = .ok (.istore 5, 2) := by decide +kernel
theorem d_law_565 : decode code 565 = .ok (.aload_n 2, 1) := by decide +kernel
theorem d_law_566 : decode code 566 = .ok (.aload_n 0, 1) := by decide +kernel
theorem d_law_567 : decode code 567 = .ok (.iload 4, 2) := by decide +kernel
theorem d_law_569 : decode code 569 = .ok (.iconst 1, 1) := by decide +kernel
theorem d_law_570 : decode code 570 = .ok (.iadd, 1) := by decide +kernel
theorem d_law_571 : decode code 571 = .ok (.iaload, 1) := by decide +kernel
theorem d_law_572 : decode code 572 = .ok (.aload_n 0, 1) := by decide +kernel
theorem d_law_573 : decode code 573 = .ok (.iload 4, 2) := by decide +kernel
theorem d_law_575 : decode code 575 = .ok (.iconst 2, 1) := by decide +kernel
theorem d_law_576 : decode code 576 = .ok (.iadd, 1) := by decide +kernel
theorem d_law_577 : decode code 577 = .ok (.iaload, 1) := by decide +kernel
theorem d_law_578 : decode code 578 = .ok (.invokevirtual 103, 3) := by decide +kernel
theorem d_law_581 : decode code 581 = .ok (.istore 6, 2) := by decide +kernel
theorem d_law_583 : decode code 583 = .ok (.aload_n 2, 1) := by decide +kernel
theorem d_law_584 : decode code 584 = .ok (.invokevirtual 82, 3) := by decide +kernel
theorem d_law_587 : decode code 587 = .ok (.iload 5, 2) := by decide +kernel
theorem d_law_589 : decode code 589 = .ok (.if_icmp .eq 5, 3) := by decide +kernel
theorem d_law_592 : decode code 592 = .ok (.iconst 0, 1) := by decide +kernel
theorem d_law_593 : decode code 593 = .ok (.ireturn, 1) := by decide +kernel
theorem d_law_594 : decode code 594 = .ok (.iload 5, 2) := by decide +kernel
theorem d_law_596 : decode code 596 = .ok (.ifCond .ne 15, 3) := by decide +kernel
theorem d_law_599 : decode code 599 = .ok (.aload_n 3, 1) := by decide +kernel
theorem d_law_600 : decode code 600 = .ok (.iconst 0, 1) := by decide +kernel
theorem d_law_601 : decode code 601 = .ok (.laload, 1) := by decide +kernel
theorem d_law_602 : decode code 602 = .ok (.iload 6, 2) := by decide +kernel
theorem d_law_604 : decode code 604 = .ok (.i2l, 1) := by decide +kernel
theorem d_law_605 : decode code 605 = .ok (.lcmp, 1) := by decide +kernel
theorem d_law_606 : decode code 606 = .ok (.ifCond .eq 5, 3) := by decide +kernel
theorem d_law_609 : decode code 609 = .ok (.iconst 0, 1) := by decide +kernel
theorem d_law_610 : decode code 610 = .ok (.ireturn, 1) := by decide +kernel
theorem d_law_611 : decode code 611 = .ok (.goto 622, 3) := by decide +kernel
theorem d_law_614 : decode code 614 = .ok (.aload_n 1, 1) := by decide +kernel
