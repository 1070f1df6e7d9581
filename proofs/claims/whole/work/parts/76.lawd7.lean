theorem d_Law_law_720 : decode b_Law_law 720 = .ok (.iconst 2, 1) := by decide +kernel
theorem d_Law_law_721 : decode b_Law_law 721 = .ok (.iadd, 1) := by decide +kernel
theorem d_Law_law_722 : decode b_Law_law 722 = .ok (.iaload, 1) := by decide +kernel
theorem d_Law_law_723 : decode b_Law_law 723 = .ok (.invokevirtual 99, 3) := by decide +kernel
theorem d_Law_law_726 : decode b_Law_law 726 = .ok (.lcmp, 1) := by decide +kernel
theorem d_Law_law_727 : decode b_Law_law 727 = .ok (.ifCond .eq 69, 3) := by decide +kernel
theorem d_Law_law_732 : decode b_Law_law 732 = .ok (.aload_n 1, 1) := by decide +kernel
theorem d_Law_law_733 : decode b_Law_law 733 = .ok (.aload_n 0, 1) := by decide +kernel
theorem d_Law_law_734 : decode b_Law_law 734 = .ok (.iload 4, 2) := by decide +kernel
theorem d_Law_law_736 : decode b_Law_law 736 = .ok (.iconst 1, 1) := by decide +kernel
theorem d_Law_law_737 : decode b_Law_law 737 = .ok (.iadd, 1) := by decide +kernel
theorem d_Law_law_738 : decode b_Law_law 738 = .ok (.iaload, 1) := by decide +kernel
theorem d_Law_law_739 : decode b_Law_law 739 = .ok (.aload_n 0, 1) := by decide +kernel
theorem d_Law_law_740 : decode b_Law_law 740 = .ok (.iload 4, 2) := by decide +kernel
theorem d_Law_law_742 : decode b_Law_law 742 = .ok (.iconst 2, 1) := by decide +kernel
theorem d_Law_law_743 : decode b_Law_law 743 = .ok (.iadd, 1) := by decide +kernel
theorem d_Law_law_744 : decode b_Law_law 744 = .ok (.iaload, 1) := by decide +kernel
theorem d_Law_law_745 : decode b_Law_law 745 = .ok (.invokevirtual 100, 3) := by decide +kernel
theorem d_Law_law_748 : decode b_Law_law 748 = .ok (.aload_n 2, 1) := by decide +kernel
theorem d_Law_law_749 : decode b_Law_law 749 = .ok (.aload_n 0, 1) := by decide +kernel
theorem d_Law_law_750 : decode b_Law_law 750 = .ok (.iload 4, 2) := by decide +kernel
theorem d_Law_law_752 : decode b_Law_law 752 = .ok (.iconst 1, 1) := by decide +kernel
theorem d_Law_law_753 : decode b_Law_law 753 = .ok (.iadd, 1) := by decide +kernel
theorem d_Law_law_754 : decode b_Law_law 754 = .ok (.iaload, 1) := by decide +kernel
theorem d_Law_law_755 : decode b_Law_law 755 = .ok (.aload_n 0, 1) := by decide +kernel
theorem d_Law_law_756 : decode b_Law_law 756 = .ok (.iload 4, 2) := by decide +kernel
theorem d_Law_law_758 : decode b_Law_law 758 = .ok (.iconst 2, 1) := by decide +kernel
theorem d_Law_law_759 : decode b_Law_law 759 = .ok (.iadd, 1) := by decide +kernel
theorem d_Law_law_760 : decode b_Law_law 760 = .ok (.iaload, 1) := by decide +kernel
theorem d_Law_law_761 : decode b_Law_law 761 = .ok (.invokevirtual 103, 3) := by decide +kernel
theorem d_Law_law_764 : decode b_Law_law 764 = .ok (.lcmp, 1) := by decide +kernel
theorem d_Law_law_765 : decode b_Law_law 765 = .ok (.ifCond .eq 31, 3) := by decide +kernel
theorem d_Law_law_770 : decode b_Law_law 770 = .ok (.aload_n 1, 1) := by decide +kernel
theorem d_Law_law_771 : decode b_Law_law 771 = .ok (.aload_n 0, 1) := by decide +kernel
theorem d_Law_law_772 : decode b_Law_law 772 = .ok (.iload 4, 2) := by decide +kernel
theorem d_Law_law_774 : decode b_Law_law 774 = .ok (.iconst 1, 1) := by decide +kernel
theorem d_Law_law_775 : decode b_Law_law 775 = .ok (.iadd, 1) := by decide +kernel
theorem d_Law_law_776 : decode b_Law_law 776 = .ok (.iaload, 1) := by decide +kernel
theorem d_Law_law_777 : decode b_Law_law 777 = .ok (.invokevirtual 104, 3) := by decide +kernel
theorem d_Law_law_780 : decode b_Law_law 780 = .ok (.aload_n 2, 1) := by decide +kernel
theorem d_Law_law_781 : decode b_Law_law 781 = .ok (.aload_n 0, 1) := by decide +kernel
theorem d_Law_law_782 : decode b_Law_law 782 = .ok (.iload 4, 2) := by decide +kernel
theorem d_Law_law_784 : decode b_Law_law 784 = .ok (.iconst 1, 1) := by decide +kernel
theorem d_Law_law_785 : decode b_Law_law 785 = .ok (.iadd, 1) := by decide +kernel
theorem d_Law_law_786 : decode b_Law_law 786 = .ok (.iaload, 1) := by decide +kernel
theorem d_Law_law_787 : decode b_Law_law 787 = .ok (.invokevirtual 108, 3) := by decide +kernel
theorem d_Law_law_790 : decode b_Law_law 790 = .ok (.lcmp, 1) := by decide +kernel
theorem d_Law_law_791 : decode b_Law_law 791 = .ok (.ifCond .eq 5, 3) := by decide +kernel
theorem d_Law_law_796 : decode b_Law_law 796 = .ok (.iinc 4 5, 3) := by decide +kernel
theorem d_Law_law_799 : decode b_Law_law 799 = .ok (.goto (-766), 3) := by decide +kernel
theorem d_Law_law_802 : decode b_Law_law 802 = .ok (.iconst 1, 1) := by decide +kernel
theorem d_Law_law_803 : decode b_Law_law 803 = .ok (.ireturn, 1) := by decide +kernel
