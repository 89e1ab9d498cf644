theorem d_L_law_797 : decode code 797 = .ok (.iaload, 1) := by decide +kernel
theorem d_L_law_798 : decode code 798 = .ok (.i2l, 1) := by decide +kernel
theorem d_L_law_799 : decode code 799 = .ok (.ldc2_w 13, 3) := by decide +kernel
theorem d_L_law_802 : decode code 802 = .ok (.land, 1) := by decide +kernel
theorem d_L_law_803 : decode code 803 = .ok (.lor, 1) := by decide +kernel
theorem d_L_law_804 : decode code 804 = .ok (.invokevirtual 100, 3) := by decide +kernel
theorem d_L_law_807 : decode code 807 = .ok (.aload_n 2, 1) := by decide +kernel
theorem d_L_law_808 : decode code 808 = .ok (.aload_n 0, 1) := by decide +kernel
theorem d_L_law_809 : decode code 809 = .ok (.iload_n 3, 1) := by decide +kernel
theorem d_L_law_810 : decode code 810 = .ok (.iconst 1, 1) := by decide +kernel
theorem d_L_law_811 : decode code 811 = .ok (.iadd, 1) := by decide +kernel
theorem d_L_law_812 : decode code 812 = .ok (.iaload, 1) := by decide +kernel
theorem d_L_law_813 : decode code 813 = .ok (.aload_n 0, 1) := by decide +kernel
theorem d_L_law_814 : decode code 814 = .ok (.iload_n 3, 1) := by decide +kernel
theorem d_L_law_815 : decode code 815 = .ok (.iconst 2, 1) := by decide +kernel
theorem d_L_law_816 : decode code 816 = .ok (.iadd, 1) := by decide +kernel
theorem d_L_law_817 : decode code 817 = .ok (.iaload, 1) := by decide +kernel
theorem d_L_law_818 : decode code 818 = .ok (.aload_n 0, 1) := by decide +kernel
theorem d_L_law_819 : decode code 819 = .ok (.iload_n 3, 1) := by decide +kernel
theorem d_L_law_820 : decode code 820 = .ok (.iconst 3, 1) := by decide +kernel
theorem d_L_law_821 : decode code 821 = .ok (.iadd, 1) := by decide +kernel
theorem d_L_law_822 : decode code 822 = .ok (.iaload, 1) := by decide +kernel
theorem d_L_law_823 : decode code 823 = .ok (.i2l, 1) := by decide +kernel
theorem d_L_law_824 : decode code 824 = .ok (.bipush 32, 2) := by decide +kernel
theorem d_L_law_826 : decode code 826 = .ok (.lshl, 1) := by decide +kernel
theorem d_L_law_827 : decode code 827 = .ok (.aload_n 0, 1) := by decide +kernel
theorem d_L_law_828 : decode code 828 = .ok (.iload_n 3, 1) := by decide +kernel
theorem d_L_law_829 : decode code 829 = .ok (.iconst 4, 1) := by decide +kernel
theorem d_L_law_830 : decode code 830 = .ok (.iadd, 1) := by decide +kernel
theorem d_L_law_831 : decode code 831 = .ok (.iaload, 1) := by decide +kernel
theorem d_L_law_832 : decode code 832 = .ok (.i2l, 1) := by decide +kernel
theorem d_L_law_833 : decode code 833 = .ok (.ldc2_w 13, 3) := by decide +kernel
theorem d_L_law_836 : decode code 836 = .ok (.land, 1) := by decide +kernel
theorem d_L_law_837 : decode code 837 = .ok (.lor, 1) := by decide +kernel
theorem d_L_law_838 : decode code 838 = .ok (.aload_n 0, 1) := by decide +kernel
theorem d_L_law_839 : decode code 839 = .ok (.iload_n 3, 1) := by decide +kernel
theorem d_L_law_840 : decode code 840 = .ok (.iconst 5, 1) := by decide +kernel
theorem d_L_law_841 : decode code 841 = .ok (.iadd, 1) := by decide +kernel
theorem d_L_law_842 : decode code 842 = .ok (.iaload, 1) := by decide +kernel
theorem d_L_law_843 : decode code 843 = .ok (.i2l, 1) := by decide +kernel
theorem d_L_law_844 : decode code 844 = .ok (.bipush 32, 2) := by decide +kernel
theorem d_L_law_846 : decode code 846 = .ok (.lshl, 1) := by decide +kernel
theorem d_L_law_847 : decode code 847 = .ok (.aload_n 0, 1) := by decide +kernel
theorem d_L_law_848 : decode code 848 = .ok (.iload_n 3, 1) := by decide +kernel
theorem d_L_law_849 : decode code 849 = .ok (.bipush 6, 2) := by decide +kernel
theorem d_L_law_851 : decode code 851 = .ok (.iadd, 1) := by decide +kernel
theorem d_L_law_852 : decode code 852 = .ok (.iaload, 1) := by decide +kernel
theorem d_L_law_853 : decode code 853 = .ok (.i2l, 1) := by decide +kernel
theorem d_L_law_854 : decode code 854 = .ok (.ldc2_w 13, 3) := by decide +kernel
theorem d_L_law_857 : decode code 857 = .ok (.land, 1) := by decide +kernel
theorem d_L_law_858 : decode code 858 = .ok (.lor, 1) := by decide +kernel
theorem d_L_law_859 : decode code 859 = .ok (.invokevirtual 104, 3) := by decide +kernel
theorem d_L_law_862 : decode code 862 = .ok (.if_icmp .eq 5, 3) := by decide +kernel
theorem d_L_law_865 : decode code 865 = .ok (.iconst 0, 1) := by decide +kernel
theorem d_L_law_866 : decode code 866 = .ok (.ireturn, 1) := by decide +kernel
theorem d_L_law_867 : decode code 867 = .ok (.iinc 3 7, 3) := by decide +kernel
theorem d_L_law_870 : decode code 870 = .ok (.goto (-852), 3) := by decide +kernel
theorem d_L_law_873 : decode code 873 = .ok (.iconst 1, 1) := by decide +kernel
theorem d_L_law_874 : decode code 874 = .ok (.ireturn, 1) := by decide +kernel
