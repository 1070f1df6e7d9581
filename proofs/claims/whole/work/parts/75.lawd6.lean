theorem d_Law_law_608 : decode b_Law_law 608 = .ok (.iadd, 1) := by decide +kernel
theorem d_Law_law_609 : decode b_Law_law 609 = .ok (.iaload, 1) := by decide +kernel
theorem d_Law_law_610 : decode b_Law_law 610 = .ok (.aload_n 0, 1) := by decide +kernel
theorem d_Law_law_611 : decode b_Law_law 611 = .ok (.iload 4, 2) := by decide +kernel
theorem d_Law_law_613 : decode b_Law_law 613 = .ok (.iconst 2, 1) := by decide +kernel
theorem d_Law_law_614 : decode b_Law_law 614 = .ok (.iadd, 1) := by decide +kernel
theorem d_Law_law_615 : decode b_Law_law 615 = .ok (.iaload, 1) := by decide +kernel
theorem d_Law_law_616 : decode b_Law_law 616 = .ok (.invokevirtual 79, 3) := by decide +kernel
theorem d_Law_law_619 : decode b_Law_law 619 = .ok (.if_icmp .eq 177, 3) := by decide +kernel
theorem d_Law_law_624 : decode b_Law_law 624 = .ok (.aload_n 1, 1) := by decide +kernel
theorem d_Law_law_625 : decode b_Law_law 625 = .ok (.aload_n 3, 1) := by decide +kernel
theorem d_Law_law_626 : decode b_Law_law 626 = .ok (.invokestatic 80, 3) := by decide +kernel
theorem d_Law_law_629 : decode b_Law_law 629 = .ok (.istore 5, 2) := by decide +kernel
theorem d_Law_law_631 : decode b_Law_law 631 = .ok (.aload_n 2, 1) := by decide +kernel
theorem d_Law_law_632 : decode b_Law_law 632 = .ok (.invokevirtual 83, 3) := by decide +kernel
theorem d_Law_law_635 : decode b_Law_law 635 = .ok (.istore 6, 2) := by decide +kernel
theorem d_Law_law_637 : decode b_Law_law 637 = .ok (.aload_n 2, 1) := by decide +kernel
theorem d_Law_law_638 : decode b_Law_law 638 = .ok (.invokevirtual 84, 3) := by decide +kernel
theorem d_Law_law_641 : decode b_Law_law 641 = .ok (.iload 5, 2) := by decide +kernel
theorem d_Law_law_643 : decode b_Law_law 643 = .ok (.if_icmp .eq 5, 3) := by decide +kernel
theorem d_Law_law_648 : decode b_Law_law 648 = .ok (.iload 5, 2) := by decide +kernel
theorem d_Law_law_650 : decode b_Law_law 650 = .ok (.ifCond .ne 15, 3) := by decide +kernel
theorem d_Law_law_653 : decode b_Law_law 653 = .ok (.aload_n 3, 1) := by decide +kernel
theorem d_Law_law_654 : decode b_Law_law 654 = .ok (.iconst 0, 1) := by decide +kernel
theorem d_Law_law_655 : decode b_Law_law 655 = .ok (.laload, 1) := by decide +kernel
theorem d_Law_law_656 : decode b_Law_law 656 = .ok (.iload 6, 2) := by decide +kernel
theorem d_Law_law_658 : decode b_Law_law 658 = .ok (.i2l, 1) := by decide +kernel
theorem d_Law_law_659 : decode b_Law_law 659 = .ok (.lcmp, 1) := by decide +kernel
theorem d_Law_law_660 : decode b_Law_law 660 = .ok (.ifCond .eq 5, 3) := by decide +kernel
theorem d_Law_law_665 : decode b_Law_law 665 = .ok (.goto 131, 3) := by decide +kernel
theorem d_Law_law_668 : decode b_Law_law 668 = .ok (.aload_n 1, 1) := by decide +kernel
theorem d_Law_law_669 : decode b_Law_law 669 = .ok (.invokevirtual 87, 3) := by decide +kernel
theorem d_Law_law_672 : decode b_Law_law 672 = .ok (.aload_n 2, 1) := by decide +kernel
theorem d_Law_law_673 : decode b_Law_law 673 = .ok (.invokevirtual 90, 3) := by decide +kernel
theorem d_Law_law_676 : decode b_Law_law 676 = .ok (.if_icmp .eq 120, 3) := by decide +kernel
theorem d_Law_law_681 : decode b_Law_law 681 = .ok (.aload_n 1, 1) := by decide +kernel
theorem d_Law_law_682 : decode b_Law_law 682 = .ok (.invokevirtual 91, 3) := by decide +kernel
theorem d_Law_law_685 : decode b_Law_law 685 = .ok (.aload_n 2, 1) := by decide +kernel
theorem d_Law_law_686 : decode b_Law_law 686 = .ok (.invokevirtual 94, 3) := by decide +kernel
theorem d_Law_law_689 : decode b_Law_law 689 = .ok (.if_icmp .eq 107, 3) := by decide +kernel
theorem d_Law_law_694 : decode b_Law_law 694 = .ok (.aload_n 1, 1) := by decide +kernel
theorem d_Law_law_695 : decode b_Law_law 695 = .ok (.aload_n 0, 1) := by decide +kernel
theorem d_Law_law_696 : decode b_Law_law 696 = .ok (.iload 4, 2) := by decide +kernel
theorem d_Law_law_698 : decode b_Law_law 698 = .ok (.iconst 1, 1) := by decide +kernel
theorem d_Law_law_699 : decode b_Law_law 699 = .ok (.iadd, 1) := by decide +kernel
theorem d_Law_law_700 : decode b_Law_law 700 = .ok (.iaload, 1) := by decide +kernel
theorem d_Law_law_701 : decode b_Law_law 701 = .ok (.aload_n 0, 1) := by decide +kernel
theorem d_Law_law_702 : decode b_Law_law 702 = .ok (.iload 4, 2) := by decide +kernel
theorem d_Law_law_704 : decode b_Law_law 704 = .ok (.iconst 2, 1) := by decide +kernel
theorem d_Law_law_705 : decode b_Law_law 705 = .ok (.iadd, 1) := by decide +kernel
theorem d_Law_law_706 : decode b_Law_law 706 = .ok (.iaload, 1) := by decide +kernel
theorem d_Law_law_707 : decode b_Law_law 707 = .ok (.invokevirtual 95, 3) := by decide +kernel
theorem d_Law_law_710 : decode b_Law_law 710 = .ok (.aload_n 2, 1) := by decide +kernel
theorem d_Law_law_711 : decode b_Law_law 711 = .ok (.aload_n 0, 1) := by decide +kernel
theorem d_Law_law_712 : decode b_Law_law 712 = .ok (.iload 4, 2) := by decide +kernel
theorem d_Law_law_714 : decode b_Law_law 714 = .ok (.iconst 1, 1) := by decide +kernel
theorem d_Law_law_715 : decode b_Law_law 715 = .ok (.iadd, 1) := by decide +kernel
theorem d_Law_law_716 : decode b_Law_law 716 = .ok (.iaload, 1) := by decide +kernel
theorem d_Law_law_717 : decode b_Law_law 717 = .ok (.aload_n 0, 1) := by decide +kernel
theorem d_Law_law_718 : decode b_Law_law 718 = .ok (.iload 4, 2) := by decide +kernel
