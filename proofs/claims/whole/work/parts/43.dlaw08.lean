theorem d_L_law_724 : decode code 724 = .ok (.iload_n 3, 1) := by decide +kernel
theorem d_L_law_725 : decode code 725 = .ok (.iconst 5, 1) := by decide +kernel
theorem d_L_law_726 : decode code 726 = .ok (.iadd, 1) := by decide +kernel
theorem d_L_law_727 : decode code 727 = .ok (.iaload, 1) := by decide +kernel
theorem d_L_law_728 : decode code 728 = .ok (.i2l, 1) := by decide +kernel
theorem d_L_law_729 : decode code 729 = .ok (.bipush 32, 2) := by decide +kernel
theorem d_L_law_731 : decode code 731 = .ok (.lshl, 1) := by decide +kernel
theorem d_L_law_732 : decode code 732 = .ok (.aload_n 0, 1) := by decide +kernel
theorem d_L_law_733 : decode code 733 = .ok (.iload_n 3, 1) := by decide +kernel
theorem d_L_law_734 : decode code 734 = .ok (.bipush 6, 2) := by decide +kernel
theorem d_L_law_736 : decode code 736 = .ok (.iadd, 1) := by decide +kernel
theorem d_L_law_737 : decode code 737 = .ok (.iaload, 1) := by decide +kernel
theorem d_L_law_738 : decode code 738 = .ok (.i2l, 1) := by decide +kernel
theorem d_L_law_739 : decode code 739 = .ok (.ldc2_w 13, 3) := by decide +kernel
theorem d_L_law_742 : decode code 742 = .ok (.land, 1) := by decide +kernel
theorem d_L_law_743 : decode code 743 = .ok (.lor, 1) := by decide +kernel
theorem d_L_law_744 : decode code 744 = .ok (.invokevirtual 99, 3) := by decide +kernel
theorem d_L_law_747 : decode code 747 = .ok (.if_icmp .eq 120, 3) := by decide +kernel
theorem d_L_law_750 : decode code 750 = .ok (.iconst 0, 1) := by decide +kernel
theorem d_L_law_751 : decode code 751 = .ok (.ireturn, 1) := by decide +kernel
theorem d_L_law_752 : decode code 752 = .ok (.aload_n 1, 1) := by decide +kernel
theorem d_L_law_753 : decode code 753 = .ok (.aload_n 0, 1) := by decide +kernel
theorem d_L_law_754 : decode code 754 = .ok (.iload_n 3, 1) := by decide +kernel
theorem d_L_law_755 : decode code 755 = .ok (.iconst 1, 1) := by decide +kernel
theorem d_L_law_756 : decode code 756 = .ok (.iadd, 1) := by decide +kernel
theorem d_L_law_757 : decode code 757 = .ok (.iaload, 1) := by decide +kernel
theorem d_L_law_758 : decode code 758 = .ok (.aload_n 0, 1) := by decide +kernel
theorem d_L_law_759 : decode code 759 = .ok (.iload_n 3, 1) := by decide +kernel
theorem d_L_law_760 : decode code 760 = .ok (.iconst 2, 1) := by decide +kernel
theorem d_L_law_761 : decode code 761 = .ok (.iadd, 1) := by decide +kernel
theorem d_L_law_762 : decode code 762 = .ok (.iaload, 1) := by decide +kernel
theorem d_L_law_763 : decode code 763 = .ok (.aload_n 0, 1) := by decide +kernel
theorem d_L_law_764 : decode code 764 = .ok (.iload_n 3, 1) := by decide +kernel
theorem d_L_law_765 : decode code 765 = .ok (.iconst 3, 1) := by decide +kernel
theorem d_L_law_766 : decode code 766 = .ok (.iadd, 1) := by decide +kernel
theorem d_L_law_767 : decode code 767 = .ok (.iaload, 1) := by decide +kernel
theorem d_L_law_768 : decode code 768 = .ok (.i2l, 1) := by decide +kernel
theorem d_L_law_769 : decode code 769 = .ok (.bipush 32, 2) := by decide +kernel
theorem d_L_law_771 : decode code 771 = .ok (.lshl, 1) := by decide +kernel
theorem d_L_law_772 : decode code 772 = .ok (.aload_n 0, 1) := by decide +kernel
theorem d_L_law_773 : decode code 773 = .ok (.iload_n 3, 1) := by decide +kernel
theorem d_L_law_774 : decode code 774 = .ok (.iconst 4, 1) := by decide +kernel
theorem d_L_law_775 : decode code 775 = .ok (.iadd, 1) := by decide +kernel
theorem d_L_law_776 : decode code 776 = .ok (.iaload, 1) := by decide +kernel
theorem d_L_law_777 : decode code 777 = .ok (.i2l, 1) := by decide +kernel
theorem d_L_law_778 : decode code 778 = .ok (.ldc2_w 13, 3) := by decide +kernel
theorem d_L_law_781 : decode code 781 = .ok (.land, 1) := by decide +kernel
theorem d_L_law_782 : decode code 782 = .ok (.lor, 1) := by decide +kernel
theorem d_L_law_783 : decode code 783 = .ok (.aload_n 0, 1) := by decide +kernel
theorem d_L_law_784 : decode code 784 = .ok (.iload_n 3, 1) := by decide +kernel
theorem d_L_law_785 : decode code 785 = .ok (.iconst 5, 1) := by decide +kernel
theorem d_L_law_786 : decode code 786 = .ok (.iadd, 1) := by decide +kernel
theorem d_L_law_787 : decode code 787 = .ok (.iaload, 1) := by decide +kernel
theorem d_L_law_788 : decode code 788 = .ok (.i2l, 1) := by decide +kernel
theorem d_L_law_789 : decode code 789 = .ok (.bipush 32, 2) := by decide +kernel
theorem d_L_law_791 : decode code 791 = .ok (.lshl, 1) := by decide +kernel
theorem d_L_law_792 : decode code 792 = .ok (.aload_n 0, 1) := by decide +kernel
theorem d_L_law_793 : decode code 793 = .ok (.iload_n 3, 1) := by decide +kernel
theorem d_L_law_794 : decode code 794 = .ok (.bipush 6, 2) := by decide +kernel
theorem d_L_law_796 : decode code 796 = .ok (.iadd, 1) := by decide +kernel
