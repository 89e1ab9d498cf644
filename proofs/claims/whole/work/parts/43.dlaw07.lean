theorem d_L_law_653 : decode code 653 = .ok (.ldc2_w 13, 3) := by decide +kernel
theorem d_L_law_656 : decode code 656 = .ok (.land, 1) := by decide +kernel
theorem d_L_law_657 : decode code 657 = .ok (.lor, 1) := by decide +kernel
theorem d_L_law_658 : decode code 658 = .ok (.aload_n 0, 1) := by decide +kernel
theorem d_L_law_659 : decode code 659 = .ok (.iload_n 3, 1) := by decide +kernel
theorem d_L_law_660 : decode code 660 = .ok (.iconst 3, 1) := by decide +kernel
theorem d_L_law_661 : decode code 661 = .ok (.iadd, 1) := by decide +kernel
theorem d_L_law_662 : decode code 662 = .ok (.iaload, 1) := by decide +kernel
theorem d_L_law_663 : decode code 663 = .ok (.aload_n 0, 1) := by decide +kernel
theorem d_L_law_664 : decode code 664 = .ok (.iload_n 3, 1) := by decide +kernel
theorem d_L_law_665 : decode code 665 = .ok (.iconst 4, 1) := by decide +kernel
theorem d_L_law_666 : decode code 666 = .ok (.iadd, 1) := by decide +kernel
theorem d_L_law_667 : decode code 667 = .ok (.iaload, 1) := by decide +kernel
theorem d_L_law_668 : decode code 668 = .ok (.aload_n 0, 1) := by decide +kernel
theorem d_L_law_669 : decode code 669 = .ok (.iload_n 3, 1) := by decide +kernel
theorem d_L_law_670 : decode code 670 = .ok (.iconst 5, 1) := by decide +kernel
theorem d_L_law_671 : decode code 671 = .ok (.iadd, 1) := by decide +kernel
theorem d_L_law_672 : decode code 672 = .ok (.iaload, 1) := by decide +kernel
theorem d_L_law_673 : decode code 673 = .ok (.i2l, 1) := by decide +kernel
theorem d_L_law_674 : decode code 674 = .ok (.bipush 32, 2) := by decide +kernel
theorem d_L_law_676 : decode code 676 = .ok (.lshl, 1) := by decide +kernel
theorem d_L_law_677 : decode code 677 = .ok (.aload_n 0, 1) := by decide +kernel
theorem d_L_law_678 : decode code 678 = .ok (.iload_n 3, 1) := by decide +kernel
theorem d_L_law_679 : decode code 679 = .ok (.bipush 6, 2) := by decide +kernel
theorem d_L_law_681 : decode code 681 = .ok (.iadd, 1) := by decide +kernel
theorem d_L_law_682 : decode code 682 = .ok (.iaload, 1) := by decide +kernel
theorem d_L_law_683 : decode code 683 = .ok (.i2l, 1) := by decide +kernel
theorem d_L_law_684 : decode code 684 = .ok (.ldc2_w 13, 3) := by decide +kernel
theorem d_L_law_687 : decode code 687 = .ok (.land, 1) := by decide +kernel
theorem d_L_law_688 : decode code 688 = .ok (.lor, 1) := by decide +kernel
theorem d_L_law_689 : decode code 689 = .ok (.invokevirtual 95, 3) := by decide +kernel
theorem d_L_law_692 : decode code 692 = .ok (.aload_n 2, 1) := by decide +kernel
theorem d_L_law_693 : decode code 693 = .ok (.aload_n 0, 1) := by decide +kernel
theorem d_L_law_694 : decode code 694 = .ok (.iload_n 3, 1) := by decide +kernel
theorem d_L_law_695 : decode code 695 = .ok (.iconst 1, 1) := by decide +kernel
theorem d_L_law_696 : decode code 696 = .ok (.iadd, 1) := by decide +kernel
theorem d_L_law_697 : decode code 697 = .ok (.iaload, 1) := by decide +kernel
theorem d_L_law_698 : decode code 698 = .ok (.i2l, 1) := by decide +kernel
theorem d_L_law_699 : decode code 699 = .ok (.bipush 32, 2) := by decide +kernel
theorem d_L_law_701 : decode code 701 = .ok (.lshl, 1) := by decide +kernel
theorem d_L_law_702 : decode code 702 = .ok (.aload_n 0, 1) := by decide +kernel
theorem d_L_law_703 : decode code 703 = .ok (.iload_n 3, 1) := by decide +kernel
theorem d_L_law_704 : decode code 704 = .ok (.iconst 2, 1) := by decide +kernel
theorem d_L_law_705 : decode code 705 = .ok (.iadd, 1) := by decide +kernel
theorem d_L_law_706 : decode code 706 = .ok (.iaload, 1) := by decide +kernel
theorem d_L_law_707 : decode code 707 = .ok (.i2l, 1) := by decide +kernel
theorem d_L_law_708 : decode code 708 = .ok (.ldc2_w 13, 3) := by decide +kernel
theorem d_L_law_711 : decode code 711 = .ok (.land, 1) := by decide +kernel
theorem d_L_law_712 : decode code 712 = .ok (.lor, 1) := by decide +kernel
theorem d_L_law_713 : decode code 713 = .ok (.aload_n 0, 1) := by decide +kernel
theorem d_L_law_714 : decode code 714 = .ok (.iload_n 3, 1) := by decide +kernel
theorem d_L_law_715 : decode code 715 = .ok (.iconst 3, 1) := by decide +kernel
theorem d_L_law_716 : decode code 716 = .ok (.iadd, 1) := by decide +kernel
theorem d_L_law_717 : decode code 717 = .ok (.iaload, 1) := by decide +kernel
theorem d_L_law_718 : decode code 718 = .ok (.aload_n 0, 1) := by decide +kernel
theorem d_L_law_719 : decode code 719 = .ok (.iload_n 3, 1) := by decide +kernel
theorem d_L_law_720 : decode code 720 = .ok (.iconst 4, 1) := by decide +kernel
theorem d_L_law_721 : decode code 721 = .ok (.iadd, 1) := by decide +kernel
theorem d_L_law_722 : decode code 722 = .ok (.iaload, 1) := by decide +kernel
theorem d_L_law_723 : decode code 723 = .ok (.aload_n 0, 1) := by decide +kernel
