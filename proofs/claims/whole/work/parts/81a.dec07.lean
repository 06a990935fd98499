theorem d_law_703 : decode code 703 = .ok (.iload 4, 2) := by decide +kernel
theorem d_law_705 : decode code 705 = .ok (.iconst 2, 1) := by decide +kernel
theorem d_law_706 : decode code 706 = .ok (.iadd, 1) := by decide +kernel
theorem d_law_707 : decode code 707 = .ok (.iaload, 1) := by decide +kernel
theorem d_law_708 : decode code 708 = .ok (.aload_n 0, 1) := by decide +kernel
theorem d_law_709 : decode code 709 = .ok (.iload 4, 2) := by decide +kernel
theorem d_law_711 : decode code 711 = .ok (.iconst 3, 1) := by decide +kernel
theorem d_law_712 : decode code 712 = .ok (.iadd, 1) := by decide +kernel
theorem d_law_713 : decode code 713 = .ok (.iaload, 1) := by decide +kernel
theorem d_law_714 : decode code 714 = .ok (.invokevirtual 110, 3) := by decide +kernel
theorem d_law_717 : decode code 717 = .ok (.istore 6, 2) := by decide +kernel
theorem d_law_719 : decode code 719 = .ok (.aload_n 2, 1) := by decide +kernel
theorem d_law_720 : decode code 720 = .ok (.invokevirtual 82, 3) := by decide +kernel
theorem d_law_723 : decode code 723 = .ok (.iload 5, 2) := by decide +kernel
theorem d_law_725 : decode code 725 = .ok (.if_icmp .eq 5, 3) := by decide +kernel
theorem d_law_728 : decode code 728 = .ok (.iconst 0, 1) := by decide +kernel
theorem d_law_729 : decode code 729 = .ok (.ireturn, 1) := by decide +kernel
theorem d_law_730 : decode code 730 = .ok (.iload 5, 2) := by decide +kernel
theorem d_law_732 : decode code 732 = .ok (.ifCond .ne 15, 3) := by decide +kernel
theorem d_law_735 : decode code 735 = .ok (.aload_n 3, 1) := by decide +kernel
theorem d_law_736 : decode code 736 = .ok (.iconst 0, 1) := by decide +kernel
theorem d_law_737 : decode code 737 = .ok (.laload, 1) := by decide +kernel
theorem d_law_738 : decode code 738 = .ok (.iload 6, 2) := by decide +kernel
theorem d_law_740 : decode code 740 = .ok (.i2l, 1) := by decide +kernel
theorem d_law_741 : decode code 741 = .ok (.lcmp, 1) := by decide +kernel
theorem d_law_742 : decode code 742 = .ok (.ifCond .eq 5, 3) := by decide +kernel
theorem d_law_745 : decode code 745 = .ok (.iconst 0, 1) := by decide +kernel
theorem d_law_746 : decode code 746 = .ok (.ireturn, 1) := by decide +kernel
theorem d_law_747 : decode code 747 = .ok (.goto 486, 3) := by decide +kernel
theorem d_law_750 : decode code 750 = .ok (.aload_n 1, 1) := by decide +kernel
theorem d_law_751 : decode code 751 = .ok (.aload_n 0, 1) := by decide +kernel
theorem d_law_752 : decode code 752 = .ok (.iload 4, 2) := by decide +kernel
theorem d_law_754 : decode code 754 = .ok (.iconst 1, 1) := by decide +kernel
theorem d_law_755 : decode code 755 = .ok (.iadd, 1) := by decide +kernel
theorem d_law_756 : decode code 756 = .ok (.iaload, 1) := by decide +kernel
theorem d_law_757 : decode code 757 = .ok (.aload_n 0, 1) := by decide +kernel
theorem d_law_758 : decode code 758 = .ok (.iload 4, 2) := by decide +kernel
theorem d_law_760 : decode code 760 = .ok (.iconst 2, 1) := by decide +kernel
theorem d_law_761 : decode code 761 = .ok (.iadd, 1) := by decide +kernel
theorem d_law_762 : decode code 762 = .ok (.iaload, 1) := by decide +kernel
theorem d_law_763 : decode code 763 = .ok (.aload_n 3, 1) := by decide +kernel
theorem d_law_764 : decode code 764 = .ok (.invokestatic 111, 3) := by decide +kernel
theorem d_law_767 : decode code 767 = .ok (.istore 5, 2) := by decide +kernel
theorem d_law_769 : decode code 769 = .ok (.aload_n 2, 1) := by decide +kernel
theorem d_law_770 : decode code 770 = .ok (.aload_n 0, 1) := by decide +kernel
theorem d_law_771 : decode code 771 = .ok (.iload 4, 2) := by decide +kernel
theorem d_law_773 : decode code 773 = .ok (.iconst 1, 1) := by decide +kernel
theorem d_law_774 : decode code 774 = .ok (.iadd, 1) := by decide +kernel
theorem d_law_775 : decode code 775 = .ok (.iaload, 1) := by decide +kernel
theorem d_law_776 : decode code 776 = .ok (.aload_n 0, 1) := by decide +kernel
theorem d_law_777 : decode code 777 = .ok (.iload 4, 2) := by decide +kernel
theorem d_law_779 : decode code 779 = .ok (.iconst 2, 1) := by decide +kernel
theorem d_law_780 : decode code 780 = .ok (.iadd, 1) := by decide +kernel
theorem d_law_781 : decode code 781 = .ok (.iaload, 1) := by decide +kernel
theorem d_law_782 : decode code 782 = .ok (.invokevirtual 113, 3) := by decide +kernel
theorem d_law_785 : decode code 785 = .ok (.istore 6, 2) := by decide +kernel
theorem d_law_787 : decode code 787 = .ok (.aload_n 2, 1) := by decide +kernel
theorem d_law_788 : decode code 788 = .ok (.invokevirtual 82, 3) := by decide +kernel
theorem d_law_791 : decode code 791 = .ok (.iload 5, 2) := by decide +kernel
theorem d_law_793 : decode code 793 = .ok (.if_icmp .eq 5, 3) := by decide +kernel
