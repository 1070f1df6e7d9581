theorem d_Law_law_520 : decode b_Law_law 520 = .ok (.invokevirtual 67, 3) := by decide +kernel
theorem d_Law_law_523 : decode b_Law_law 523 = .ok (.aload_n 2, 1) := by decide +kernel
theorem d_Law_law_524 : decode b_Law_law 524 = .ok (.aload_n 0, 1) := by decide +kernel
theorem d_Law_law_525 : decode b_Law_law 525 = .ok (.iload 4, 2) := by decide +kernel
theorem d_Law_law_527 : decode b_Law_law 527 = .ok (.iconst 1, 1) := by decide +kernel
theorem d_Law_law_528 : decode b_Law_law 528 = .ok (.iadd, 1) := by decide +kernel
theorem d_Law_law_529 : decode b_Law_law 529 = .ok (.iaload, 1) := by decide +kernel
theorem d_Law_law_530 : decode b_Law_law 530 = .ok (.aload_n 0, 1) := by decide +kernel
theorem d_Law_law_531 : decode b_Law_law 531 = .ok (.iload 4, 2) := by decide +kernel
theorem d_Law_law_533 : decode b_Law_law 533 = .ok (.iconst 2, 1) := by decide +kernel
theorem d_Law_law_534 : decode b_Law_law 534 = .ok (.iadd, 1) := by decide +kernel
theorem d_Law_law_535 : decode b_Law_law 535 = .ok (.iaload, 1) := by decide +kernel
theorem d_Law_law_536 : decode b_Law_law 536 = .ok (.aload_n 0, 1) := by decide +kernel
theorem d_Law_law_537 : decode b_Law_law 537 = .ok (.iload 4, 2) := by decide +kernel
theorem d_Law_law_539 : decode b_Law_law 539 = .ok (.iconst 3, 1) := by decide +kernel
theorem d_Law_law_540 : decode b_Law_law 540 = .ok (.iadd, 1) := by decide +kernel
theorem d_Law_law_541 : decode b_Law_law 541 = .ok (.iaload, 1) := by decide +kernel
theorem d_Law_law_542 : decode b_Law_law 542 = .ok (.invokevirtual 71, 3) := by decide +kernel
theorem d_Law_law_545 : decode b_Law_law 545 = .ok (.if_icmp .eq 251, 3) := by decide +kernel
theorem d_Law_law_550 : decode b_Law_law 550 = .ok (.aload_n 1, 1) := by decide +kernel
theorem d_Law_law_551 : decode b_Law_law 551 = .ok (.aload_n 0, 1) := by decide +kernel
theorem d_Law_law_552 : decode b_Law_law 552 = .ok (.iload 4, 2) := by decide +kernel
theorem d_Law_law_554 : decode b_Law_law 554 = .ok (.iconst 1, 1) := by decide +kernel
theorem d_Law_law_555 : decode b_Law_law 555 = .ok (.iadd, 1) := by decide +kernel
theorem d_Law_law_556 : decode b_Law_law 556 = .ok (.iaload, 1) := by decide +kernel
theorem d_Law_law_557 : decode b_Law_law 557 = .ok (.aload_n 0, 1) := by decide +kernel
theorem d_Law_law_558 : decode b_Law_law 558 = .ok (.iload 4, 2) := by decide +kernel
theorem d_Law_law_560 : decode b_Law_law 560 = .ok (.iconst 2, 1) := by decide +kernel
theorem d_Law_law_561 : decode b_Law_law 561 = .ok (.iadd, 1) := by decide +kernel
theorem d_Law_law_562 : decode b_Law_law 562 = .ok (.iaload, 1) := by decide +kernel
theorem d_Law_law_563 : decode b_Law_law 563 = .ok (.invokevirtual 72, 3) := by decide +kernel
theorem d_Law_law_566 : decode b_Law_law 566 = .ok (.aload_n 2, 1) := by decide +kernel
theorem d_Law_law_567 : decode b_Law_law 567 = .ok (.aload_n 0, 1) := by decide +kernel
theorem d_Law_law_568 : decode b_Law_law 568 = .ok (.iload 4, 2) := by decide +kernel
theorem d_Law_law_570 : decode b_Law_law 570 = .ok (.iconst 1, 1) := by decide +kernel
theorem d_Law_law_571 : decode b_Law_law 571 = .ok (.iadd, 1) := by decide +kernel
theorem d_Law_law_572 : decode b_Law_law 572 = .ok (.iaload, 1) := by decide +kernel
theorem d_Law_law_573 : decode b_Law_law 573 = .ok (.aload_n 0, 1) := by decide +kernel
theorem d_Law_law_574 : decode b_Law_law 574 = .ok (.iload 4, 2) := by decide +kernel
theorem d_Law_law_576 : decode b_Law_law 576 = .ok (.iconst 2, 1) := by decide +kernel
theorem d_Law_law_577 : decode b_Law_law 577 = .ok (.iadd, 1) := by decide +kernel
theorem d_Law_law_578 : decode b_Law_law 578 = .ok (.iaload, 1) := by decide +kernel
theorem d_Law_law_579 : decode b_Law_law 579 = .ok (.invokevirtual 75, 3) := by decide +kernel
theorem d_Law_law_582 : decode b_Law_law 582 = .ok (.if_icmp .eq 214, 3) := by decide +kernel
theorem d_Law_law_587 : decode b_Law_law 587 = .ok (.aload_n 1, 1) := by decide +kernel
theorem d_Law_law_588 : decode b_Law_law 588 = .ok (.aload_n 0, 1) := by decide +kernel
theorem d_Law_law_589 : decode b_Law_law 589 = .ok (.iload 4, 2) := by decide +kernel
theorem d_Law_law_591 : decode b_Law_law 591 = .ok (.iconst 1, 1) := by decide +kernel
theorem d_Law_law_592 : decode b_Law_law 592 = .ok (.iadd, 1) := by decide +kernel
theorem d_Law_law_593 : decode b_Law_law 593 = .ok (.iaload, 1) := by decide +kernel
theorem d_Law_law_594 : decode b_Law_law 594 = .ok (.aload_n 0, 1) := by decide +kernel
theorem d_Law_law_595 : decode b_Law_law 595 = .ok (.iload 4, 2) := by decide +kernel
theorem d_Law_law_597 : decode b_Law_law 597 = .ok (.iconst 2, 1) := by decide +kernel
theorem d_Law_law_598 : decode b_Law_law 598 = .ok (.iadd, 1) := by decide +kernel
theorem d_Law_law_599 : decode b_Law_law 599 = .ok (.iaload, 1) := by decide +kernel
theorem d_Law_law_600 : decode b_Law_law 600 = .ok (.invokevirtual 76, 3) := by decide +kernel
theorem d_Law_law_603 : decode b_Law_law 603 = .ok (.aload_n 2, 1) := by decide +kernel
theorem d_Law_law_604 : decode b_Law_law 604 = .ok (.aload_n 0, 1) := by decide +kernel
theorem d_Law_law_605 : decode b_Law_law 605 = .ok (.iload 4, 2) := by decide +kernel
theorem d_Law_law_607 : decode b_Law_law 607 = .ok (.iconst 1, 1) := by decide +kernel
