theorem d_M_init_0 : decode b_M_init 0 = .ok (.aload_n 0, 1) := by decide +kernel
theorem d_M_init_1 : decode b_M_init 1 = .ok (.invokespecial 1, 3) := by decide +kernel
theorem d_M_init_4 : decode b_M_init 4 = .ok (.aload_n 0, 1) := by decide +kernel
theorem d_M_init_5 : decode b_M_init 5 = .ok (.bipush 64, 2) := by decide +kernel
theorem d_M_init_7 : decode b_M_init 7 = .ok (.newarray .long, 2) := by decide +kernel
theorem d_M_init_9 : decode b_M_init 9 = .ok (.putfield 7, 3) := by decide +kernel
theorem d_M_init_12 : decode b_M_init 12 = .ok (.aload_n 0, 1) := by decide +kernel
theorem d_M_init_13 : decode b_M_init 13 = .ok (.bipush 72, 2) := by decide +kernel
theorem d_M_init_15 : decode b_M_init 15 = .ok (.newarray .long, 2) := by decide +kernel
theorem d_M_init_17 : decode b_M_init 17 = .ok (.putfield 13, 3) := by decide +kernel
theorem d_M_init_20 : decode b_M_init 20 = .ok (.aload_n 0, 1) := by decide +kernel
theorem d_M_init_21 : decode b_M_init 21 = .ok (.iconst 2, 1) := by decide +kernel
theorem d_M_init_22 : decode b_M_init 22 = .ok (.newarray .int, 2) := by decide +kernel
theorem d_M_init_24 : decode b_M_init 24 = .ok (.putfield 16, 3) := by decide +kernel
theorem d_M_init_27 : decode b_M_init 27 = .ok (.aload_n 0, 1) := by decide +kernel
theorem d_M_init_28 : decode b_M_init 28 = .ok (.iconst 2, 1) := by decide +kernel
theorem d_M_init_29 : decode b_M_init 29 = .ok (.newarray .int, 2) := by decide +kernel
theorem d_M_init_31 : decode b_M_init 31 = .ok (.putfield 20, 3) := by decide +kernel
theorem d_M_init_34 : decode b_M_init 34 = .ok (.aload_n 0, 1) := by decide +kernel
theorem d_M_init_35 : decode b_M_init 35 = .ok (.iconst 2, 1) := by decide +kernel
theorem d_M_init_36 : decode b_M_init 36 = .ok (.newarray .long, 2) := by decide +kernel
theorem d_M_init_38 : decode b_M_init 38 = .ok (.putfield 23, 3) := by decide +kernel
theorem d_M_init_41 : decode b_M_init 41 = .ok (.aload_n 0, 1) := by decide +kernel
theorem d_M_init_42 : decode b_M_init 42 = .ok (.iconst (-1), 1) := by decide +kernel
theorem d_M_init_43 : decode b_M_init 43 = .ok (.putfield 26, 3) := by decide +kernel
theorem d_M_init_46 : decode b_M_init 46 = .ok (.aload_n 0, 1) := by decide +kernel
theorem d_M_init_47 : decode b_M_init 47 = .ok (.bipush 16, 2) := by decide +kernel
theorem d_M_init_49 : decode b_M_init 49 = .ok (.newarray .long, 2) := by decide +kernel
theorem d_M_init_51 : decode b_M_init 51 = .ok (.putfield 30, 3) := by decide +kernel
theorem d_M_init_54 : decode b_M_init 54 = .ok (.aload_n 0, 1) := by decide +kernel
theorem d_M_init_55 : decode b_M_init 55 = .ok (.bipush 8, 2) := by decide +kernel
theorem d_M_init_57 : decode b_M_init 57 = .ok (.newarray .long, 2) := by decide +kernel
theorem d_M_init_59 : decode b_M_init 59 = .ok (.putfield 33, 3) := by decide +kernel
theorem d_M_init_62 : decode b_M_init 62 = .ok (.aload_n 0, 1) := by decide +kernel
theorem d_M_init_63 : decode b_M_init 63 = .ok (.bipush 9, 2) := by decide +kernel
theorem d_M_init_65 : decode b_M_init 65 = .ok (.newarray .long, 2) := by decide +kernel
theorem d_M_init_67 : decode b_M_init 67 = .ok (.putfield 36, 3) := by decide +kernel
theorem d_M_init_70 : decode b_M_init 70 = .ok (.aload_n 0, 1) := by decide +kernel
theorem d_M_init_71 : decode b_M_init 71 = .ok (.bipush 8, 2) := by decide +kernel
theorem d_M_init_73 : decode b_M_init 73 = .ok (.newarray .long, 2) := by decide +kernel
theorem d_M_init_75 : decode b_M_init 75 = .ok (.putfield 39, 3) := by decide +kernel
theorem d_M_init_78 : decode b_M_init 78 = .ok (.aload_n 0, 1) := by decide +kernel
theorem d_M_init_79 : decode b_M_init 79 = .ok (.bipush 8, 2) := by decide +kernel
theorem d_M_init_81 : decode b_M_init 81 = .ok (.newarray .boolean, 2) := by decide +kernel
theorem d_M_init_83 : decode b_M_init 83 = .ok (.putfield 42, 3) := by decide +kernel
theorem d_M_init_86 : decode b_M_init 86 = .ok (.return_, 1) := by decide +kernel
theorem d_M_write_0 : decode b_M_write 0 = .ok (.aload_n 0, 1) := by decide +kernel
theorem d_M_write_1 : decode b_M_write 1 = .ok (.getfield 65, 3) := by decide +kernel
theorem d_M_write_4 : decode b_M_write 4 = .ok (.ifCond .ne 10, 3) := by decide +kernel
theorem d_M_write_7 : decode b_M_write 7 = .ok (.aload_n 0, 1) := by decide +kernel
theorem d_M_write_8 : decode b_M_write 8 = .ok (.getfield 26, 3) := by decide +kernel
theorem d_M_write_11 : decode b_M_write 11 = .ok (.ifCond .ne 20, 3) := by decide +kernel
theorem d_M_write_14 : decode b_M_write 14 = .ok (.aload_n 0, 1) := by decide +kernel
theorem d_M_write_15 : decode b_M_write 15 = .ok (.iconst 1, 1) := by decide +kernel
theorem d_M_write_16 : decode b_M_write 16 = .ok (.putfield 69, 3) := by decide +kernel
theorem d_M_write_19 : decode b_M_write 19 = .ok (.aload_n 0, 1) := by decide +kernel
theorem d_M_write_20 : decode b_M_write 20 = .ok (.iconst 1, 1) := by decide +kernel
theorem d_M_write_21 : decode b_M_write 21 = .ok (.putfield 65, 3) := by decide +kernel
theorem d_M_write_24 : decode b_M_write 24 = .ok (.aload_n 0, 1) := by decide +kernel
theorem d_M_write_25 : decode b_M_write 25 = .ok (.iconst (-1), 1) := by decide +kernel
theorem d_M_write_26 : decode b_M_write 26 = .ok (.putfield 26, 3) := by decide +kernel
theorem d_M_write_29 : decode b_M_write 29 = .ok (.iconst 0, 1) := by decide +kernel
theorem d_M_write_30 : decode b_M_write 30 = .ok (.ireturn, 1) := by decide +kernel
theorem d_M_write_31 : decode b_M_write 31 = .ok (.aload_n 0, 1) := by decide +kernel
theorem d_M_write_32 : decode b_M_write 32 = .ok (.aload_n 0, 1) := by decide +kernel
theorem d_M_write_33 : decode b_M_write 33 = .ok (.getfield 26, 3) := by decide +kernel
theorem d_M_write_36 : decode b_M_write 36 = .ok (.ifCond .le 12, 3) := by decide +kernel
theorem d_M_write_39 : decode b_M_write 39 = .ok (.aload_n 0, 1) := by decide +kernel
theorem d_M_write_40 : decode b_M_write 40 = .ok (.getfield 26, 3) := by decide +kernel
theorem d_M_write_43 : decode b_M_write 43 = .ok (.iconst 1, 1) := by decide +kernel
theorem d_M_write_44 : decode b_M_write 44 = .ok (.isub, 1) := by decide +kernel
theorem d_M_write_45 : decode b_M_write 45 = .ok (.goto 7, 3) := by decide +kernel
theorem d_M_write_48 : decode b_M_write 48 = .ok (.aload_n 0, 1) := by decide +kernel
theorem d_M_write_49 : decode b_M_write 49 = .ok (.getfield 26, 3) := by decide +kernel
theorem d_M_write_52 : decode b_M_write 52 = .ok (.putfield 26, 3) := by decide +kernel
theorem d_M_write_55 : decode b_M_write 55 = .ok (.aload_n 0, 1) := by decide +kernel
theorem d_M_write_56 : decode b_M_write 56 = .ok (.aload_n 0, 1) := by decide +kernel
theorem d_M_write_57 : decode b_M_write 57 = .ok (.getfield 72, 3) := by decide +kernel
theorem d_M_write_60 : decode b_M_write 60 = .ok (.iconst 1, 1) := by decide +kernel
theorem d_M_write_61 : decode b_M_write 61 = .ok (.iadd, 1) := by decide +kernel
theorem d_M_write_62 : decode b_M_write 62 = .ok (.putfield 72, 3) := by decide +kernel
theorem d_M_write_65 : decode b_M_write 65 = .ok (.iconst 1, 1) := by decide +kernel
theorem d_M_write_66 : decode b_M_write 66 = .ok (.ireturn, 1) := by decide +kernel
theorem d_M_rightAt_0 : decode b_M_rightAt 0 = .ok (.iload_n 1, 1) := by decide +kernel
theorem d_M_rightAt_1 : decode b_M_rightAt 1 = .ok (.bipush 8, 2) := by decide +kernel
theorem d_M_rightAt_3 : decode b_M_rightAt 3 = .ok (.if_icmp .ge 32, 3) := by decide +kernel
theorem d_M_rightAt_6 : decode b_M_rightAt 6 = .ok (.bipush 8, 2) := by decide +kernel
theorem d_M_rightAt_8 : decode b_M_rightAt 8 = .ok (.iload_n 1, 1) := by decide +kernel
theorem d_M_rightAt_9 : decode b_M_rightAt 9 = .ok (.imul, 1) := by decide +kernel
theorem d_M_rightAt_10 : decode b_M_rightAt 10 = .ok (.iload_n 2, 1) := by decide +kernel
theorem d_M_rightAt_11 : decode b_M_rightAt 11 = .ok (.iadd, 1) := by decide +kernel
theorem d_M_rightAt_12 : decode b_M_rightAt 12 = .ok (.iload_n 3, 1) := by decide +kernel
theorem d_M_rightAt_13 : decode b_M_rightAt 13 = .ok (.if_icmp .ge 20, 3) := by decide +kernel
theorem d_M_rightAt_16 : decode b_M_rightAt 16 = .ok (.aload_n 0, 1) := by decide +kernel
theorem d_M_rightAt_17 : decode b_M_rightAt 17 = .ok (.getfield 7, 3) := by decide +kernel
theorem d_M_rightAt_20 : decode b_M_rightAt 20 = .ok (.bipush 8, 2) := by decide +kernel
theorem d_M_rightAt_22 : decode b_M_rightAt 22 = .ok (.iload_n 1, 1) := by decide +kernel
theorem d_M_rightAt_23 : decode b_M_rightAt 23 = .ok (.imul, 1) := by decide +kernel
theorem d_M_rightAt_24 : decode b_M_rightAt 24 = .ok (.iload_n 2, 1) := by decide +kernel
theorem d_M_rightAt_25 : decode b_M_rightAt 25 = .ok (.iadd, 1) := by decide +kernel
theorem d_M_rightAt_26 : decode b_M_rightAt 26 = .ok (.laload, 1) := by decide +kernel
theorem d_M_rightAt_27 : decode b_M_rightAt 27 = .ok (.invokestatic 58, 3) := by decide +kernel
theorem d_M_rightAt_30 : decode b_M_rightAt 30 = .ok (.goto 4, 3) := by decide +kernel
theorem d_M_rightAt_33 : decode b_M_rightAt 33 = .ok (.lconst 0, 1) := by decide +kernel
theorem d_M_rightAt_34 : decode b_M_rightAt 34 = .ok (.lreturn, 1) := by decide +kernel
theorem d_M_rightAt_35 : decode b_M_rightAt 35 = .ok (.bipush 8, 2) := by decide +kernel
theorem d_M_rightAt_37 : decode b_M_rightAt 37 = .ok (.iload_n 2, 1) := by decide +kernel
theorem d_M_rightAt_38 : decode b_M_rightAt 38 = .ok (.imul, 1) := by decide +kernel
theorem d_M_rightAt_39 : decode b_M_rightAt 39 = .ok (.bipush 8, 2) := by decide +kernel
theorem d_M_rightAt_41 : decode b_M_rightAt 41 = .ok (.iadd, 1) := by decide +kernel
theorem d_M_rightAt_42 : decode b_M_rightAt 42 = .ok (.iload_n 3, 1) := by decide +kernel
theorem d_M_rightAt_43 : decode b_M_rightAt 43 = .ok (.if_icmp .gt 16, 3) := by decide +kernel
theorem d_M_rightAt_46 : decode b_M_rightAt 46 = .ok (.aload_n 0, 1) := by decide +kernel
theorem d_M_rightAt_47 : decode b_M_rightAt 47 = .ok (.bipush 8, 2) := by decide +kernel
theorem d_M_rightAt_49 : decode b_M_rightAt 49 = .ok (.iload_n 2, 1) := by decide +kernel
theorem d_M_rightAt_50 : decode b_M_rightAt 50 = .ok (.imul, 1) := by decide +kernel
theorem d_M_rightAt_51 : decode b_M_rightAt 51 = .ok (.bipush 8, 2) := by decide +kernel
theorem d_M_rightAt_53 : decode b_M_rightAt 53 = .ok (.invokevirtual 75, 3) := by decide +kernel
theorem d_M_rightAt_56 : decode b_M_rightAt 56 = .ok (.goto 4, 3) := by decide +kernel
theorem d_M_rightAt_59 : decode b_M_rightAt 59 = .ok (.lconst 0, 1) := by decide +kernel
theorem d_M_rightAt_60 : decode b_M_rightAt 60 = .ok (.lreturn, 1) := by decide +kernel
theorem d_M_putRight_0 : decode b_M_putRight 0 = .ok (.iconst 0, 1) := by decide +kernel
theorem d_M_putRight_1 : decode b_M_putRight 1 = .ok (.istore_n 2, 1) := by decide +kernel
theorem d_M_putRight_2 : decode b_M_putRight 2 = .ok (.iload_n 2, 1) := by decide +kernel
theorem d_M_putRight_3 : decode b_M_putRight 3 = .ok (.bipush 9, 2) := by decide +kernel
theorem d_M_putRight_5 : decode b_M_putRight 5 = .ok (.if_icmp .ge 115, 3) := by decide +kernel
theorem d_M_putRight_8 : decode b_M_putRight 8 = .ok (.aload_n 0, 1) := by decide +kernel
theorem d_M_putRight_9 : decode b_M_putRight 9 = .ok (.getfield 65, 3) := by decide +kernel
theorem d_M_putRight_12 : decode b_M_putRight 12 = .ok (.ifCond .ne 108, 3) := by decide +kernel
theorem d_M_putRight_15 : decode b_M_putRight 15 = .ok (.iconst 1, 1) := by decide +kernel
theorem d_M_putRight_16 : decode b_M_putRight 16 = .ok (.istore_n 3, 1) := by decide +kernel
theorem d_M_putRight_17 : decode b_M_putRight 17 = .ok (.iconst 0, 1) := by decide +kernel
theorem d_M_putRight_18 : decode b_M_putRight 18 = .ok (.istore 4, 2) := by decide +kernel
theorem d_M_putRight_20 : decode b_M_putRight 20 = .ok (.iload 4, 2) := by decide +kernel
theorem d_M_putRight_22 : decode b_M_putRight 22 = .ok (.bipush 8, 2) := by decide +kernel
theorem d_M_putRight_24 : decode b_M_putRight 24 = .ok (.if_icmp .ge 43, 3) := by decide +kernel
theorem d_M_putRight_27 : decode b_M_putRight 27 = .ok (.iload_n 3, 1) := by decide +kernel
theorem d_M_putRight_28 : decode b_M_putRight 28 = .ok (.ifCond .eq 31, 3) := by decide +kernel
theorem d_M_putRight_31 : decode b_M_putRight 31 = .ok (.aload_n 0, 1) := by decide +kernel
theorem d_M_putRight_32 : decode b_M_putRight 32 = .ok (.getfield 13, 3) := by decide +kernel
theorem d_M_putRight_35 : decode b_M_putRight 35 = .ok (.bipush 8, 2) := by decide +kernel
theorem d_M_putRight_37 : decode b_M_putRight 37 = .ok (.iload_n 2, 1) := by decide +kernel
theorem d_M_putRight_38 : decode b_M_putRight 38 = .ok (.imul, 1) := by decide +kernel
theorem d_M_putRight_39 : decode b_M_putRight 39 = .ok (.iload 4, 2) := by decide +kernel
theorem d_M_putRight_41 : decode b_M_putRight 41 = .ok (.iadd, 1) := by decide +kernel
theorem d_M_putRight_42 : decode b_M_putRight 42 = .ok (.laload, 1) := by decide +kernel
theorem d_M_putRight_43 : decode b_M_putRight 43 = .ok (.aload_n 0, 1) := by decide +kernel
theorem d_M_putRight_44 : decode b_M_putRight 44 = .ok (.iload_n 2, 1) := by decide +kernel
theorem d_M_putRight_45 : decode b_M_putRight 45 = .ok (.iload 4, 2) := by decide +kernel
theorem d_M_putRight_47 : decode b_M_putRight 47 = .ok (.iload_n 1, 1) := by decide +kernel
theorem d_M_putRight_48 : decode b_M_putRight 48 = .ok (.invokevirtual 79, 3) := by decide +kernel
theorem d_M_putRight_51 : decode b_M_putRight 51 = .ok (.lcmp, 1) := by decide +kernel
theorem d_M_putRight_52 : decode b_M_putRight 52 = .ok (.ifCond .ne 7, 3) := by decide +kernel
theorem d_M_putRight_55 : decode b_M_putRight 55 = .ok (.iconst 1, 1) := by decide +kernel
theorem d_M_putRight_56 : decode b_M_putRight 56 = .ok (.goto 4, 3) := by decide +kernel
theorem d_M_putRight_59 : decode b_M_putRight 59 = .ok (.iconst 0, 1) := by decide +kernel
theorem d_M_putRight_60 : decode b_M_putRight 60 = .ok (.istore_n 3, 1) := by decide +kernel
theorem d_M_putRight_61 : decode b_M_putRight 61 = .ok (.iinc 4 1, 3) := by decide +kernel
theorem d_M_putRight_64 : decode b_M_putRight 64 = .ok (.goto (-44), 3) := by decide +kernel
theorem d_M_putRight_67 : decode b_M_putRight 67 = .ok (.iload_n 3, 1) := by decide +kernel
theorem d_M_putRight_68 : decode b_M_putRight 68 = .ok (.ifCond .ne 46, 3) := by decide +kernel
theorem d_M_putRight_71 : decode b_M_putRight 71 = .ok (.aload_n 0, 1) := by decide +kernel
theorem d_M_putRight_72 : decode b_M_putRight 72 = .ok (.invokevirtual 83, 3) := by decide +kernel
theorem d_M_putRight_75 : decode b_M_putRight 75 = .ok (.ifCond .eq 39, 3) := by decide +kernel
theorem d_M_putRight_78 : decode b_M_putRight 78 = .ok (.iconst 0, 1) := by decide +kernel
theorem d_M_putRight_79 : decode b_M_putRight 79 = .ok (.istore 4, 2) := by decide +kernel
theorem d_M_putRight_81 : decode b_M_putRight 81 = .ok (.iload 4, 2) := by decide +kernel
theorem d_M_putRight_83 : decode b_M_putRight 83 = .ok (.bipush 8, 2) := by decide +kernel
theorem d_M_putRight_85 : decode b_M_putRight 85 = .ok (.if_icmp .ge 29, 3) := by decide +kernel
theorem d_M_putRight_88 : decode b_M_putRight 88 = .ok (.aload_n 0, 1) := by decide +kernel
theorem d_M_putRight_89 : decode b_M_putRight 89 = .ok (.getfield 13, 3) := by decide +kernel
theorem d_M_putRight_92 : decode b_M_putRight 92 = .ok (.bipush 8, 2) := by decide +kernel
theorem d_M_putRight_94 : decode b_M_putRight 94 = .ok (.iload_n 2, 1) := by decide +kernel
theorem d_M_putRight_95 : decode b_M_putRight 95 = .ok (.imul, 1) := by decide +kernel
theorem d_M_putRight_96 : decode b_M_putRight 96 = .ok (.iload 4, 2) := by decide +kernel
theorem d_M_putRight_98 : decode b_M_putRight 98 = .ok (.iadd, 1) := by decide +kernel
theorem d_M_putRight_99 : decode b_M_putRight 99 = .ok (.aload_n 0, 1) := by decide +kernel
theorem d_M_putRight_100 : decode b_M_putRight 100 = .ok (.iload_n 2, 1) := by decide +kernel
theorem d_M_putRight_101 : decode b_M_putRight 101 = .ok (.iload 4, 2) := by decide +kernel
theorem d_M_putRight_103 : decode b_M_putRight 103 = .ok (.iload_n 1, 1) := by decide +kernel
theorem d_M_putRight_104 : decode b_M_putRight 104 = .ok (.invokevirtual 79, 3) := by decide +kernel
theorem d_M_putRight_107 : decode b_M_putRight 107 = .ok (.lastore, 1) := by decide +kernel
theorem d_M_putRight_108 : decode b_M_putRight 108 = .ok (.iinc 4 1, 3) := by decide +kernel
theorem d_M_putRight_111 : decode b_M_putRight 111 = .ok (.goto (-30), 3) := by decide +kernel
theorem d_M_putRight_114 : decode b_M_putRight 114 = .ok (.iinc 2 1, 3) := by decide +kernel
theorem d_M_putRight_117 : decode b_M_putRight 117 = .ok (.goto (-115), 3) := by decide +kernel
theorem d_M_putRight_120 : decode b_M_putRight 120 = .ok (.return_, 1) := by decide +kernel
theorem d_M_latestPlace_0 : decode b_M_latestPlace 0 = .ok (.aload_n 0, 1) := by decide +kernel
theorem d_M_latestPlace_1 : decode b_M_latestPlace 1 = .ok (.getfield 16, 3) := by decide +kernel
theorem d_M_latestPlace_4 : decode b_M_latestPlace 4 = .ok (.iconst 0, 1) := by decide +kernel
theorem d_M_latestPlace_5 : decode b_M_latestPlace 5 = .ok (.iaload, 1) := by decide +kernel
theorem d_M_latestPlace_6 : decode b_M_latestPlace 6 = .ok (.ifCond .ne 16, 3) := by decide +kernel
theorem d_M_latestPlace_9 : decode b_M_latestPlace 9 = .ok (.aload_n 0, 1) := by decide +kernel
theorem d_M_latestPlace_10 : decode b_M_latestPlace 10 = .ok (.getfield 16, 3) := by decide +kernel
theorem d_M_latestPlace_13 : decode b_M_latestPlace 13 = .ok (.iconst 1, 1) := by decide +kernel
theorem d_M_latestPlace_14 : decode b_M_latestPlace 14 = .ok (.iaload, 1) := by decide +kernel
theorem d_M_latestPlace_15 : decode b_M_latestPlace 15 = .ok (.ifCond .ne 7, 3) := by decide +kernel
theorem d_M_latestPlace_18 : decode b_M_latestPlace 18 = .ok (.iconst (-1), 1) := by decide +kernel
theorem d_M_latestPlace_19 : decode b_M_latestPlace 19 = .ok (.goto 23, 3) := by decide +kernel
theorem d_M_latestPlace_22 : decode b_M_latestPlace 22 = .ok (.aload_n 0, 1) := by decide +kernel
theorem d_M_latestPlace_23 : decode b_M_latestPlace 23 = .ok (.getfield 16, 3) := by decide +kernel
theorem d_M_latestPlace_26 : decode b_M_latestPlace 26 = .ok (.iconst 0, 1) := by decide +kernel
theorem d_M_latestPlace_27 : decode b_M_latestPlace 27 = .ok (.iaload, 1) := by decide +kernel
theorem d_M_latestPlace_28 : decode b_M_latestPlace 28 = .ok (.aload_n 0, 1) := by decide +kernel
theorem d_M_latestPlace_29 : decode b_M_latestPlace 29 = .ok (.getfield 16, 3) := by decide +kernel
theorem d_M_latestPlace_32 : decode b_M_latestPlace 32 = .ok (.iconst 1, 1) := by decide +kernel
theorem d_M_latestPlace_33 : decode b_M_latestPlace 33 = .ok (.iaload, 1) := by decide +kernel
theorem d_M_latestPlace_34 : decode b_M_latestPlace 34 = .ok (.if_icmp .le 7, 3) := by decide +kernel
theorem d_M_latestPlace_37 : decode b_M_latestPlace 37 = .ok (.iconst 0, 1) := by decide +kernel
theorem d_M_latestPlace_38 : decode b_M_latestPlace 38 = .ok (.goto 4, 3) := by decide +kernel
theorem d_M_latestPlace_41 : decode b_M_latestPlace 41 = .ok (.iconst 1, 1) := by decide +kernel
theorem d_M_latestPlace_42 : decode b_M_latestPlace 42 = .ok (.ireturn, 1) := by decide +kernel
theorem d_M_latestNumber_0 : decode b_M_latestNumber 0 = .ok (.aload_n 0, 1) := by decide +kernel
theorem d_M_latestNumber_1 : decode b_M_latestNumber 1 = .ok (.invokevirtual 87, 3) := by decide +kernel
theorem d_M_latestNumber_4 : decode b_M_latestNumber 4 = .ok (.istore_n 1, 1) := by decide +kernel
theorem d_M_latestNumber_5 : decode b_M_latestNumber 5 = .ok (.iload_n 1, 1) := by decide +kernel
theorem d_M_latestNumber_6 : decode b_M_latestNumber 6 = .ok (.ifCond .ge 7, 3) := by decide +kernel
theorem d_M_latestNumber_9 : decode b_M_latestNumber 9 = .ok (.iconst 0, 1) := by decide +kernel
theorem d_M_latestNumber_10 : decode b_M_latestNumber 10 = .ok (.goto 9, 3) := by decide +kernel
theorem d_M_latestNumber_13 : decode b_M_latestNumber 13 = .ok (.aload_n 0, 1) := by decide +kernel
theorem d_M_latestNumber_14 : decode b_M_latestNumber 14 = .ok (.getfield 16, 3) := by decide +kernel
theorem d_M_latestNumber_17 : decode b_M_latestNumber 17 = .ok (.iload_n 1, 1) := by decide +kernel
theorem d_M_latestNumber_18 : decode b_M_latestNumber 18 = .ok (.iaload, 1) := by decide +kernel
theorem d_M_latestNumber_19 : decode b_M_latestNumber 19 = .ok (.ireturn, 1) := by decide +kernel
theorem d_M_published_0 : decode b_M_published 0 = .ok (.aload_n 0, 1) := by decide +kernel
theorem d_M_published_1 : decode b_M_published 1 = .ok (.invokevirtual 87, 3) := by decide +kernel
theorem d_M_published_4 : decode b_M_published 4 = .ok (.istore_n 1, 1) := by decide +kernel
theorem d_M_published_5 : decode b_M_published 5 = .ok (.iload_n 1, 1) := by decide +kernel
theorem d_M_published_6 : decode b_M_published 6 = .ok (.ifCond .ge 7, 3) := by decide +kernel
theorem d_M_published_9 : decode b_M_published 9 = .ok (.iconst 0, 1) := by decide +kernel
theorem d_M_published_10 : decode b_M_published 10 = .ok (.goto 9, 3) := by decide +kernel
theorem d_M_published_13 : decode b_M_published 13 = .ok (.aload_n 0, 1) := by decide +kernel
theorem d_M_published_14 : decode b_M_published 14 = .ok (.getfield 20, 3) := by decide +kernel
theorem d_M_published_17 : decode b_M_published 17 = .ok (.iload_n 1, 1) := by decide +kernel
theorem d_M_published_18 : decode b_M_published 18 = .ok (.iaload, 1) := by decide +kernel
theorem d_M_published_19 : decode b_M_published 19 = .ok (.ireturn, 1) := by decide +kernel
theorem d_M_append_0 : decode b_M_append 0 = .ok (.aload_n 0, 1) := by decide +kernel
theorem d_M_append_1 : decode b_M_append 1 = .ok (.getfield 69, 3) := by decide +kernel
theorem d_M_append_4 : decode b_M_append 4 = .ok (.ifCond .eq 6, 3) := by decide +kernel
theorem d_M_append_7 : decode b_M_append 7 = .ok (.bipush (-2), 2) := by decide +kernel
theorem d_M_append_9 : decode b_M_append 9 = .ok (.ireturn, 1) := by decide +kernel
theorem d_M_append_10 : decode b_M_append 10 = .ok (.aload_n 0, 1) := by decide +kernel
theorem d_M_append_11 : decode b_M_append 11 = .ok (.getfield 91, 3) := by decide +kernel
theorem d_M_append_14 : decode b_M_append 14 = .ok (.bipush 64, 2) := by decide +kernel
theorem d_M_append_16 : decode b_M_append 16 = .ok (.if_icmp .ne 5, 3) := by decide +kernel
theorem d_M_append_19 : decode b_M_append 19 = .ok (.iconst (-1), 1) := by decide +kernel
theorem d_M_append_20 : decode b_M_append 20 = .ok (.ireturn, 1) := by decide +kernel
theorem d_M_append_21 : decode b_M_append 21 = .ok (.aload_n 0, 1) := by decide +kernel
theorem d_M_append_22 : decode b_M_append 22 = .ok (.iconst 0, 1) := by decide +kernel
theorem d_M_append_23 : decode b_M_append 23 = .ok (.putfield 65, 3) := by decide +kernel
theorem d_M_append_26 : decode b_M_append 26 = .ok (.aload_n 0, 1) := by decide +kernel
theorem d_M_append_27 : decode b_M_append 27 = .ok (.invokevirtual 83, 3) := by decide +kernel
theorem d_M_append_30 : decode b_M_append 30 = .ok (.ifCond .ne 6, 3) := by decide +kernel
theorem d_M_append_33 : decode b_M_append 33 = .ok (.bipush (-3), 2) := by decide +kernel
theorem d_M_append_35 : decode b_M_append 35 = .ok (.ireturn, 1) := by decide +kernel
theorem d_M_append_36 : decode b_M_append 36 = .ok (.aload_n 0, 1) := by decide +kernel
theorem d_M_append_37 : decode b_M_append 37 = .ok (.getfield 7, 3) := by decide +kernel
theorem d_M_append_40 : decode b_M_append 40 = .ok (.aload_n 0, 1) := by decide +kernel
theorem d_M_append_41 : decode b_M_append 41 = .ok (.getfield 91, 3) := by decide +kernel
theorem d_M_append_44 : decode b_M_append 44 = .ok (.lload_n 1, 1) := by decide +kernel
theorem d_M_append_45 : decode b_M_append 45 = .ok (.lastore, 1) := by decide +kernel
theorem d_M_append_46 : decode b_M_append 46 = .ok (.aload_n 0, 1) := by decide +kernel
theorem d_M_append_47 : decode b_M_append 47 = .ok (.aload_n 0, 1) := by decide +kernel
theorem d_M_append_48 : decode b_M_append 48 = .ok (.getfield 91, 3) := by decide +kernel
theorem d_M_append_51 : decode b_M_append 51 = .ok (.iconst 1, 1) := by decide +kernel
theorem d_M_append_52 : decode b_M_append 52 = .ok (.iadd, 1) := by decide +kernel
theorem d_M_append_53 : decode b_M_append 53 = .ok (.putfield 91, 3) := by decide +kernel
theorem d_M_append_56 : decode b_M_append 56 = .ok (.aload_n 0, 1) := by decide +kernel
theorem d_M_append_57 : decode b_M_append 57 = .ok (.getfield 91, 3) := by decide +kernel
theorem d_M_append_60 : decode b_M_append 60 = .ok (.iconst 1, 1) := by decide +kernel
theorem d_M_append_61 : decode b_M_append 61 = .ok (.isub, 1) := by decide +kernel
theorem d_M_append_62 : decode b_M_append 62 = .ok (.ireturn, 1) := by decide +kernel
theorem d_M_publish_0 : decode b_M_publish 0 = .ok (.aload_n 0, 1) := by decide +kernel
theorem d_M_publish_1 : decode b_M_publish 1 = .ok (.getfield 69, 3) := by decide +kernel
theorem d_M_publish_4 : decode b_M_publish 4 = .ok (.ifCond .eq 6, 3) := by decide +kernel
theorem d_M_publish_7 : decode b_M_publish 7 = .ok (.bipush (-2), 2) := by decide +kernel
theorem d_M_publish_9 : decode b_M_publish 9 = .ok (.ireturn, 1) := by decide +kernel
theorem d_M_publish_10 : decode b_M_publish 10 = .ok (.aload_n 0, 1) := by decide +kernel
theorem d_M_publish_11 : decode b_M_publish 11 = .ok (.iconst 0, 1) := by decide +kernel
theorem d_M_publish_12 : decode b_M_publish 12 = .ok (.putfield 65, 3) := by decide +kernel
theorem d_M_publish_15 : decode b_M_publish 15 = .ok (.aload_n 0, 1) := by decide +kernel
theorem d_M_publish_16 : decode b_M_publish 16 = .ok (.getfield 91, 3) := by decide +kernel
theorem d_M_publish_19 : decode b_M_publish 19 = .ok (.aload_n 0, 1) := by decide +kernel
theorem d_M_publish_20 : decode b_M_publish 20 = .ok (.invokevirtual 94, 3) := by decide +kernel
theorem d_M_publish_23 : decode b_M_publish 23 = .ok (.if_icmp .eq 70, 3) := by decide +kernel
theorem d_M_publish_26 : decode b_M_publish 26 = .ok (.aload_n 0, 1) := by decide +kernel
theorem d_M_publish_27 : decode b_M_publish 27 = .ok (.aload_n 0, 1) := by decide +kernel
theorem d_M_publish_28 : decode b_M_publish 28 = .ok (.getfield 91, 3) := by decide +kernel
theorem d_M_publish_31 : decode b_M_publish 31 = .ok (.invokevirtual 97, 3) := by decide +kernel
theorem d_M_publish_34 : decode b_M_publish 34 = .ok (.aload_n 0, 1) := by decide +kernel
theorem d_M_publish_35 : decode b_M_publish 35 = .ok (.invokevirtual 101, 3) := by decide +kernel
theorem d_M_publish_38 : decode b_M_publish 38 = .ok (.iconst 1, 1) := by decide +kernel
theorem d_M_publish_39 : decode b_M_publish 39 = .ok (.iadd, 1) := by decide +kernel
theorem d_M_publish_40 : decode b_M_publish 40 = .ok (.istore_n 1, 1) := by decide +kernel
theorem d_M_publish_41 : decode b_M_publish 41 = .ok (.aload_n 0, 1) := by decide +kernel
theorem d_M_publish_42 : decode b_M_publish 42 = .ok (.getfield 65, 3) := by decide +kernel
theorem d_M_publish_45 : decode b_M_publish 45 = .ok (.ifCond .ne 48, 3) := by decide +kernel
theorem d_M_publish_48 : decode b_M_publish 48 = .ok (.aload_n 0, 1) := by decide +kernel
theorem d_M_publish_49 : decode b_M_publish 49 = .ok (.invokevirtual 83, 3) := by decide +kernel
theorem d_M_publish_52 : decode b_M_publish 52 = .ok (.ifCond .eq 41, 3) := by decide +kernel
theorem d_M_publish_55 : decode b_M_publish 55 = .ok (.aload_n 0, 1) := by decide +kernel
theorem d_M_publish_56 : decode b_M_publish 56 = .ok (.getfield 16, 3) := by decide +kernel
theorem d_M_publish_59 : decode b_M_publish 59 = .ok (.iload_n 1, 1) := by decide +kernel
theorem d_M_publish_60 : decode b_M_publish 60 = .ok (.iconst 2, 1) := by decide +kernel
theorem d_M_publish_61 : decode b_M_publish 61 = .ok (.irem, 1) := by decide +kernel
theorem d_M_publish_62 : decode b_M_publish 62 = .ok (.iload_n 1, 1) := by decide +kernel
theorem d_M_publish_63 : decode b_M_publish 63 = .ok (.iastore, 1) := by decide +kernel
theorem d_M_publish_64 : decode b_M_publish 64 = .ok (.aload_n 0, 1) := by decide +kernel
theorem d_M_publish_65 : decode b_M_publish 65 = .ok (.getfield 20, 3) := by decide +kernel
theorem d_M_publish_68 : decode b_M_publish 68 = .ok (.iload_n 1, 1) := by decide +kernel
theorem d_M_publish_69 : decode b_M_publish 69 = .ok (.iconst 2, 1) := by decide +kernel
theorem d_M_publish_70 : decode b_M_publish 70 = .ok (.irem, 1) := by decide +kernel
theorem d_M_publish_71 : decode b_M_publish 71 = .ok (.aload_n 0, 1) := by decide +kernel
theorem d_M_publish_72 : decode b_M_publish 72 = .ok (.getfield 91, 3) := by decide +kernel
theorem d_M_publish_75 : decode b_M_publish 75 = .ok (.iastore, 1) := by decide +kernel
theorem d_M_publish_76 : decode b_M_publish 76 = .ok (.aload_n 0, 1) := by decide +kernel
theorem d_M_publish_77 : decode b_M_publish 77 = .ok (.getfield 23, 3) := by decide +kernel
theorem d_M_publish_80 : decode b_M_publish 80 = .ok (.iload_n 1, 1) := by decide +kernel
theorem d_M_publish_81 : decode b_M_publish 81 = .ok (.iconst 2, 1) := by decide +kernel
theorem d_M_publish_82 : decode b_M_publish 82 = .ok (.irem, 1) := by decide +kernel
theorem d_M_publish_83 : decode b_M_publish 83 = .ok (.aload_n 0, 1) := by decide +kernel
theorem d_M_publish_84 : decode b_M_publish 84 = .ok (.iconst 0, 1) := by decide +kernel
theorem d_M_publish_85 : decode b_M_publish 85 = .ok (.aload_n 0, 1) := by decide +kernel
theorem d_M_publish_86 : decode b_M_publish 86 = .ok (.getfield 91, 3) := by decide +kernel
theorem d_M_publish_89 : decode b_M_publish 89 = .ok (.invokevirtual 75, 3) := by decide +kernel
theorem d_M_publish_92 : decode b_M_publish 92 = .ok (.lastore, 1) := by decide +kernel
theorem d_M_publish_93 : decode b_M_publish 93 = .ok (.aload_n 0, 1) := by decide +kernel
theorem d_M_publish_94 : decode b_M_publish 94 = .ok (.getfield 65, 3) := by decide +kernel
theorem d_M_publish_97 : decode b_M_publish 97 = .ok (.ifCond .eq 8, 3) := by decide +kernel
theorem d_M_publish_100 : decode b_M_publish 100 = .ok (.bipush (-3), 2) := by decide +kernel
theorem d_M_publish_102 : decode b_M_publish 102 = .ok (.goto 7, 3) := by decide +kernel
theorem d_M_publish_105 : decode b_M_publish 105 = .ok (.aload_n 0, 1) := by decide +kernel
theorem d_M_publish_106 : decode b_M_publish 106 = .ok (.invokevirtual 101, 3) := by decide +kernel
theorem d_M_publish_109 : decode b_M_publish 109 = .ok (.ireturn, 1) := by decide +kernel
theorem d_M_order_0 : decode b_M_order 0 = .ok (.iload_n 1, 1) := by decide +kernel
theorem d_M_order_1 : decode b_M_order 1 = .ok (.ifCond .lt 9, 3) := by decide +kernel
theorem d_M_order_4 : decode b_M_order 4 = .ok (.iload_n 1, 1) := by decide +kernel
theorem d_M_order_5 : decode b_M_order 5 = .ok (.bipush 20, 2) := by decide +kernel
theorem d_M_order_7 : decode b_M_order 7 = .ok (.if_icmp .le 5, 3) := by decide +kernel
theorem d_M_order_10 : decode b_M_order 10 = .ok (.iconst 0, 1) := by decide +kernel
theorem d_M_order_11 : decode b_M_order 11 = .ok (.ireturn, 1) := by decide +kernel
theorem d_M_order_12 : decode b_M_order 12 = .ok (.aload_n 0, 1) := by decide +kernel
theorem d_M_order_13 : decode b_M_order 13 = .ok (.iload_n 1, 1) := by decide +kernel
theorem d_M_order_14 : decode b_M_order 14 = .ok (.putfield 26, 3) := by decide +kernel
theorem d_M_order_17 : decode b_M_order 17 = .ok (.iconst 1, 1) := by decide +kernel
theorem d_M_order_18 : decode b_M_order 18 = .ok (.ireturn, 1) := by decide +kernel
theorem d_M_recover_0 : decode b_M_recover 0 = .ok (.aload_n 0, 1) := by decide +kernel
theorem d_M_recover_1 : decode b_M_recover 1 = .ok (.getfield 69, 3) := by decide +kernel
theorem d_M_recover_4 : decode b_M_recover 4 = .ok (.ifCond .ne 5, 3) := by decide +kernel
theorem d_M_recover_7 : decode b_M_recover 7 = .ok (.iconst (-1), 1) := by decide +kernel
theorem d_M_recover_8 : decode b_M_recover 8 = .ok (.ireturn, 1) := by decide +kernel
theorem d_M_recover_9 : decode b_M_recover 9 = .ok (.aload_n 0, 1) := by decide +kernel
theorem d_M_recover_10 : decode b_M_recover 10 = .ok (.iconst 0, 1) := by decide +kernel
theorem d_M_recover_11 : decode b_M_recover 11 = .ok (.putfield 65, 3) := by decide +kernel
theorem d_M_recover_14 : decode b_M_recover 14 = .ok (.aload_n 0, 1) := by decide +kernel
theorem d_M_recover_15 : decode b_M_recover 15 = .ok (.aload_n 0, 1) := by decide +kernel
theorem d_M_recover_16 : decode b_M_recover 16 = .ok (.invokevirtual 94, 3) := by decide +kernel
theorem d_M_recover_19 : decode b_M_recover 19 = .ok (.invokevirtual 97, 3) := by decide +kernel
theorem d_M_recover_22 : decode b_M_recover 22 = .ok (.aload_n 0, 1) := by decide +kernel
theorem d_M_recover_23 : decode b_M_recover 23 = .ok (.getfield 65, 3) := by decide +kernel
theorem d_M_recover_26 : decode b_M_recover 26 = .ok (.ifCond .eq 6, 3) := by decide +kernel
theorem d_M_recover_29 : decode b_M_recover 29 = .ok (.bipush (-3), 2) := by decide +kernel
theorem d_M_recover_31 : decode b_M_recover 31 = .ok (.ireturn, 1) := by decide +kernel
theorem d_M_recover_32 : decode b_M_recover 32 = .ok (.aload_n 0, 1) := by decide +kernel
theorem d_M_recover_33 : decode b_M_recover 33 = .ok (.iconst 0, 1) := by decide +kernel
theorem d_M_recover_34 : decode b_M_recover 34 = .ok (.putfield 69, 3) := by decide +kernel
theorem d_M_recover_37 : decode b_M_recover 37 = .ok (.aload_n 0, 1) := by decide +kernel
theorem d_M_recover_38 : decode b_M_recover 38 = .ok (.getfield 91, 3) := by decide +kernel
theorem d_M_recover_41 : decode b_M_recover 41 = .ok (.ireturn, 1) := by decide +kernel
theorem d_M_writes_0 : decode b_M_writes 0 = .ok (.aload_n 0, 1) := by decide +kernel
theorem d_M_writes_1 : decode b_M_writes 1 = .ok (.getfield 72, 3) := by decide +kernel
theorem d_M_writes_4 : decode b_M_writes 4 = .ok (.ireturn, 1) := by decide +kernel
theorem d_M_length_0 : decode b_M_length 0 = .ok (.aload_n 0, 1) := by decide +kernel
theorem d_M_length_1 : decode b_M_length 1 = .ok (.getfield 69, 3) := by decide +kernel
theorem d_M_length_4 : decode b_M_length 4 = .ok (.ifCond .eq 8, 3) := by decide +kernel
theorem d_M_length_7 : decode b_M_length 7 = .ok (.bipush (-2), 2) := by decide +kernel
theorem d_M_length_9 : decode b_M_length 9 = .ok (.goto 7, 3) := by decide +kernel
theorem d_M_length_12 : decode b_M_length 12 = .ok (.aload_n 0, 1) := by decide +kernel
theorem d_M_length_13 : decode b_M_length 13 = .ok (.getfield 91, 3) := by decide +kernel
theorem d_M_length_16 : decode b_M_length 16 = .ok (.ireturn, 1) := by decide +kernel
theorem d_M_isHead_0 : decode b_M_isHead 0 = .ok (.iload_n 1, 1) := by decide +kernel
theorem d_M_isHead_1 : decode b_M_isHead 1 = .ok (.ifCond .eq 8, 3) := by decide +kernel
theorem d_M_isHead_4 : decode b_M_isHead 4 = .ok (.iload_n 1, 1) := by decide +kernel
theorem d_M_isHead_5 : decode b_M_isHead 5 = .ok (.iconst 1, 1) := by decide +kernel
theorem d_M_isHead_6 : decode b_M_isHead 6 = .ok (.if_icmp .ne 16, 3) := by decide +kernel
theorem d_M_isHead_9 : decode b_M_isHead 9 = .ok (.aload_n 0, 1) := by decide +kernel
theorem d_M_isHead_10 : decode b_M_isHead 10 = .ok (.getfield 16, 3) := by decide +kernel
theorem d_M_isHead_13 : decode b_M_isHead 13 = .ok (.iload_n 1, 1) := by decide +kernel
theorem d_M_isHead_14 : decode b_M_isHead 14 = .ok (.iaload, 1) := by decide +kernel
theorem d_M_isHead_15 : decode b_M_isHead 15 = .ok (.ifCond .le 7, 3) := by decide +kernel
theorem d_M_isHead_18 : decode b_M_isHead 18 = .ok (.iconst 1, 1) := by decide +kernel
theorem d_M_isHead_19 : decode b_M_isHead 19 = .ok (.goto 4, 3) := by decide +kernel
theorem d_M_isHead_22 : decode b_M_isHead 22 = .ok (.iconst 0, 1) := by decide +kernel
theorem d_M_isHead_23 : decode b_M_isHead 23 = .ok (.ireturn, 1) := by decide +kernel
theorem d_M_size_0 : decode b_M_size 0 = .ok (.aload_n 0, 1) := by decide +kernel
theorem d_M_size_1 : decode b_M_size 1 = .ok (.iload_n 1, 1) := by decide +kernel
theorem d_M_size_2 : decode b_M_size 2 = .ok (.invokevirtual 104, 3) := by decide +kernel
theorem d_M_size_5 : decode b_M_size 5 = .ok (.ifCond .eq 12, 3) := by decide +kernel
theorem d_M_size_8 : decode b_M_size 8 = .ok (.aload_n 0, 1) := by decide +kernel
theorem d_M_size_9 : decode b_M_size 9 = .ok (.getfield 20, 3) := by decide +kernel
theorem d_M_size_12 : decode b_M_size 12 = .ok (.iload_n 1, 1) := by decide +kernel
theorem d_M_size_13 : decode b_M_size 13 = .ok (.iaload, 1) := by decide +kernel
theorem d_M_size_14 : decode b_M_size 14 = .ok (.goto 4, 3) := by decide +kernel
theorem d_M_size_17 : decode b_M_size 17 = .ok (.iconst (-1), 1) := by decide +kernel
theorem d_M_size_18 : decode b_M_size 18 = .ok (.ireturn, 1) := by decide +kernel
theorem d_M_root_0 : decode b_M_root 0 = .ok (.aload_n 0, 1) := by decide +kernel
theorem d_M_root_1 : decode b_M_root 1 = .ok (.iload_n 1, 1) := by decide +kernel
theorem d_M_root_2 : decode b_M_root 2 = .ok (.invokevirtual 104, 3) := by decide +kernel
theorem d_M_root_5 : decode b_M_root 5 = .ok (.ifCond .eq 12, 3) := by decide +kernel
theorem d_M_root_8 : decode b_M_root 8 = .ok (.aload_n 0, 1) := by decide +kernel
theorem d_M_root_9 : decode b_M_root 9 = .ok (.getfield 23, 3) := by decide +kernel
theorem d_M_root_12 : decode b_M_root 12 = .ok (.iload_n 1, 1) := by decide +kernel
theorem d_M_root_13 : decode b_M_root 13 = .ok (.laload, 1) := by decide +kernel
theorem d_M_root_14 : decode b_M_root 14 = .ok (.goto 4, 3) := by decide +kernel
theorem d_M_root_17 : decode b_M_root 17 = .ok (.lconst 0, 1) := by decide +kernel
theorem d_M_root_18 : decode b_M_root 18 = .ok (.lreturn, 1) := by decide +kernel
theorem d_M_latest_0 : decode b_M_latest 0 = .ok (.aload_n 0, 1) := by decide +kernel
theorem d_M_latest_1 : decode b_M_latest 1 = .ok (.invokevirtual 101, 3) := by decide +kernel
theorem d_M_latest_4 : decode b_M_latest 4 = .ok (.ireturn, 1) := by decide +kernel
theorem d_M_tile_0 : decode b_M_tile 0 = .ok (.iload_n 3, 1) := by decide +kernel
theorem d_M_tile_1 : decode b_M_tile 1 = .ok (.ifCond .lt 36, 3) := by decide +kernel
theorem d_M_tile_4 : decode b_M_tile 4 = .ok (.iload_n 3, 1) := by decide +kernel
theorem d_M_tile_5 : decode b_M_tile 5 = .ok (.bipush 7, 2) := by decide +kernel
theorem d_M_tile_7 : decode b_M_tile 7 = .ok (.if_icmp .gt 30, 3) := by decide +kernel
theorem d_M_tile_10 : decode b_M_tile 10 = .ok (.iload_n 2, 1) := by decide +kernel
theorem d_M_tile_11 : decode b_M_tile 11 = .ok (.ifCond .lt 26, 3) := by decide +kernel
theorem d_M_tile_14 : decode b_M_tile 14 = .ok (.iload_n 1, 1) := by decide +kernel
theorem d_M_tile_15 : decode b_M_tile 15 = .ok (.ifCond .lt 22, 3) := by decide +kernel
theorem d_M_tile_18 : decode b_M_tile 18 = .ok (.iload_n 1, 1) := by decide +kernel
theorem d_M_tile_19 : decode b_M_tile 19 = .ok (.iconst 1, 1) := by decide +kernel
theorem d_M_tile_20 : decode b_M_tile 20 = .ok (.if_icmp .gt 17, 3) := by decide +kernel
theorem d_M_tile_23 : decode b_M_tile 23 = .ok (.iload_n 2, 1) := by decide +kernel
theorem d_M_tile_24 : decode b_M_tile 24 = .ok (.iload_n 1, 1) := by decide +kernel
theorem d_M_tile_25 : decode b_M_tile 25 = .ok (.ifCond .ne 8, 3) := by decide +kernel
theorem d_M_tile_28 : decode b_M_tile 28 = .ok (.bipush 7, 2) := by decide +kernel
theorem d_M_tile_30 : decode b_M_tile 30 = .ok (.goto 4, 3) := by decide +kernel
theorem d_M_tile_33 : decode b_M_tile 33 = .ok (.iconst 0, 1) := by decide +kernel
theorem d_M_tile_34 : decode b_M_tile 34 = .ok (.if_icmp .le 5, 3) := by decide +kernel
theorem d_M_tile_37 : decode b_M_tile 37 = .ok (.lconst 0, 1) := by decide +kernel
theorem d_M_tile_38 : decode b_M_tile 38 = .ok (.lreturn, 1) := by decide +kernel
theorem d_M_tile_39 : decode b_M_tile 39 = .ok (.iload_n 1, 1) := by decide +kernel
theorem d_M_tile_40 : decode b_M_tile 40 = .ok (.ifCond .ne 17, 3) := by decide +kernel
theorem d_M_tile_43 : decode b_M_tile 43 = .ok (.aload_n 0, 1) := by decide +kernel
theorem d_M_tile_44 : decode b_M_tile 44 = .ok (.getfield 13, 3) := by decide +kernel
theorem d_M_tile_47 : decode b_M_tile 47 = .ok (.bipush 8, 2) := by decide +kernel
theorem d_M_tile_49 : decode b_M_tile 49 = .ok (.iload_n 2, 1) := by decide +kernel
theorem d_M_tile_50 : decode b_M_tile 50 = .ok (.imul, 1) := by decide +kernel
theorem d_M_tile_51 : decode b_M_tile 51 = .ok (.iload_n 3, 1) := by decide +kernel
theorem d_M_tile_52 : decode b_M_tile 52 = .ok (.iadd, 1) := by decide +kernel
theorem d_M_tile_53 : decode b_M_tile 53 = .ok (.laload, 1) := by decide +kernel
theorem d_M_tile_54 : decode b_M_tile 54 = .ok (.goto 12, 3) := by decide +kernel
theorem d_M_tile_57 : decode b_M_tile 57 = .ok (.aload_n 0, 1) := by decide +kernel
theorem d_M_tile_58 : decode b_M_tile 58 = .ok (.getfield 13, 3) := by decide +kernel
theorem d_M_tile_61 : decode b_M_tile 61 = .ok (.bipush 64, 2) := by decide +kernel
theorem d_M_tile_63 : decode b_M_tile 63 = .ok (.iload_n 3, 1) := by decide +kernel
theorem d_M_tile_64 : decode b_M_tile 64 = .ok (.iadd, 1) := by decide +kernel
theorem d_M_tile_65 : decode b_M_tile 65 = .ok (.laload, 1) := by decide +kernel
theorem d_M_tile_66 : decode b_M_tile 66 = .ok (.lreturn, 1) := by decide +kernel
theorem d_M_entry_0 : decode b_M_entry 0 = .ok (.iload_n 1, 1) := by decide +kernel
theorem d_M_entry_1 : decode b_M_entry 1 = .ok (.ifCond .lt 20, 3) := by decide +kernel
theorem d_M_entry_4 : decode b_M_entry 4 = .ok (.iload_n 1, 1) := by decide +kernel
theorem d_M_entry_5 : decode b_M_entry 5 = .ok (.aload_n 0, 1) := by decide +kernel
theorem d_M_entry_6 : decode b_M_entry 6 = .ok (.getfield 91, 3) := by decide +kernel
theorem d_M_entry_9 : decode b_M_entry 9 = .ok (.if_icmp .ge 12, 3) := by decide +kernel
theorem d_M_entry_12 : decode b_M_entry 12 = .ok (.aload_n 0, 1) := by decide +kernel
theorem d_M_entry_13 : decode b_M_entry 13 = .ok (.getfield 7, 3) := by decide +kernel
theorem d_M_entry_16 : decode b_M_entry 16 = .ok (.iload_n 1, 1) := by decide +kernel
theorem d_M_entry_17 : decode b_M_entry 17 = .ok (.laload, 1) := by decide +kernel
theorem d_M_entry_18 : decode b_M_entry 18 = .ok (.goto 4, 3) := by decide +kernel
theorem d_M_entry_21 : decode b_M_entry 21 = .ok (.lconst 0, 1) := by decide +kernel
theorem d_M_entry_22 : decode b_M_entry 22 = .ok (.lreturn, 1) := by decide +kernel
theorem d_M_find_0 : decode b_M_find 0 = .ok (.aload_n 0, 1) := by decide +kernel
theorem d_M_find_1 : decode b_M_find 1 = .ok (.getfield 69, 3) := by decide +kernel
theorem d_M_find_4 : decode b_M_find 4 = .ok (.ifCond .eq 6, 3) := by decide +kernel
theorem d_M_find_7 : decode b_M_find 7 = .ok (.bipush (-2), 2) := by decide +kernel
theorem d_M_find_9 : decode b_M_find 9 = .ok (.ireturn, 1) := by decide +kernel
theorem d_M_find_10 : decode b_M_find 10 = .ok (.lload_n 1, 1) := by decide +kernel
theorem d_M_find_11 : decode b_M_find 11 = .ok (.invokestatic 58, 3) := by decide +kernel
theorem d_M_find_14 : decode b_M_find 14 = .ok (.lstore_n 3, 1) := by decide +kernel
theorem d_M_find_15 : decode b_M_find 15 = .ok (.iconst (-1), 1) := by decide +kernel
theorem d_M_find_16 : decode b_M_find 16 = .ok (.istore 5, 2) := by decide +kernel
theorem d_M_find_18 : decode b_M_find 18 = .ok (.aload_n 0, 1) := by decide +kernel
theorem d_M_find_19 : decode b_M_find 19 = .ok (.invokevirtual 94, 3) := by decide +kernel
theorem d_M_find_22 : decode b_M_find 22 = .ok (.iconst 1, 1) := by decide +kernel
theorem d_M_find_23 : decode b_M_find 23 = .ok (.isub, 1) := by decide +kernel
theorem d_M_find_24 : decode b_M_find 24 = .ok (.istore 6, 2) := by decide +kernel
theorem d_M_find_26 : decode b_M_find 26 = .ok (.iload 6, 2) := by decide +kernel
theorem d_M_find_28 : decode b_M_find 28 = .ok (.ifCond .lt 33, 3) := by decide +kernel
theorem d_M_find_31 : decode b_M_find 31 = .ok (.aload_n 0, 1) := by decide +kernel
theorem d_M_find_32 : decode b_M_find 32 = .ok (.getfield 7, 3) := by decide +kernel
theorem d_M_find_35 : decode b_M_find 35 = .ok (.iload 6, 2) := by decide +kernel
theorem d_M_find_37 : decode b_M_find 37 = .ok (.laload, 1) := by decide +kernel
theorem d_M_find_38 : decode b_M_find 38 = .ok (.invokestatic 58, 3) := by decide +kernel
theorem d_M_find_41 : decode b_M_find 41 = .ok (.lload_n 3, 1) := by decide +kernel
theorem d_M_find_42 : decode b_M_find 42 = .ok (.lcmp, 1) := by decide +kernel
theorem d_M_find_43 : decode b_M_find 43 = .ok (.ifCond .ne 8, 3) := by decide +kernel
theorem d_M_find_46 : decode b_M_find 46 = .ok (.iload 6, 2) := by decide +kernel
theorem d_M_find_48 : decode b_M_find 48 = .ok (.goto 5, 3) := by decide +kernel
theorem d_M_find_51 : decode b_M_find 51 = .ok (.iload 5, 2) := by decide +kernel
theorem d_M_find_53 : decode b_M_find 53 = .ok (.istore 5, 2) := by decide +kernel
theorem d_M_find_55 : decode b_M_find 55 = .ok (.iinc 6 (-1), 3) := by decide +kernel
theorem d_M_find_58 : decode b_M_find 58 = .ok (.goto (-32), 3) := by decide +kernel
theorem d_M_find_61 : decode b_M_find 61 = .ok (.iload 5, 2) := by decide +kernel
theorem d_M_find_63 : decode b_M_find 63 = .ok (.ireturn, 1) := by decide +kernel
theorem d_M_rootOf_0 : decode b_M_rootOf 0 = .ok (.iload_n 1, 1) := by decide +kernel
theorem d_M_rootOf_1 : decode b_M_rootOf 1 = .ok (.ifCond .lt 11, 3) := by decide +kernel
theorem d_M_rootOf_4 : decode b_M_rootOf 4 = .ok (.iload_n 1, 1) := by decide +kernel
theorem d_M_rootOf_5 : decode b_M_rootOf 5 = .ok (.aload_n 0, 1) := by decide +kernel
theorem d_M_rootOf_6 : decode b_M_rootOf 6 = .ok (.getfield 91, 3) := by decide +kernel
theorem d_M_rootOf_9 : decode b_M_rootOf 9 = .ok (.if_icmp .le 7, 3) := by decide +kernel
theorem d_M_rootOf_12 : decode b_M_rootOf 12 = .ok (.lconst 0, 1) := by decide +kernel
theorem d_M_rootOf_13 : decode b_M_rootOf 13 = .ok (.goto 9, 3) := by decide +kernel
theorem d_M_rootOf_16 : decode b_M_rootOf 16 = .ok (.aload_n 0, 1) := by decide +kernel
theorem d_M_rootOf_17 : decode b_M_rootOf 17 = .ok (.iconst 0, 1) := by decide +kernel
theorem d_M_rootOf_18 : decode b_M_rootOf 18 = .ok (.iload_n 1, 1) := by decide +kernel
theorem d_M_rootOf_19 : decode b_M_rootOf 19 = .ok (.invokevirtual 75, 3) := by decide +kernel
theorem d_M_rootOf_22 : decode b_M_rootOf 22 = .ok (.lreturn, 1) := by decide +kernel
theorem d_M_turn_0 : decode b_M_turn 0 = .ok (.iconst 0, 1) := by decide +kernel
theorem d_M_turn_1 : decode b_M_turn 1 = .ok (.istore_n 1, 1) := by decide +kernel
theorem d_M_turn_2 : decode b_M_turn 2 = .ok (.iload_n 1, 1) := by decide +kernel
theorem d_M_turn_3 : decode b_M_turn 3 = .ok (.aload_n 0, 1) := by decide +kernel
theorem d_M_turn_4 : decode b_M_turn 4 = .ok (.getfield 108, 3) := by decide +kernel
theorem d_M_turn_7 : decode b_M_turn 7 = .ok (.iconst 2, 1) := by decide +kernel
theorem d_M_turn_8 : decode b_M_turn 8 = .ok (.idiv, 1) := by decide +kernel
theorem d_M_turn_9 : decode b_M_turn 9 = .ok (.if_icmp .ge 49, 3) := by decide +kernel
theorem d_M_turn_12 : decode b_M_turn 12 = .ok (.aload_n 0, 1) := by decide +kernel
theorem d_M_turn_13 : decode b_M_turn 13 = .ok (.getfield 30, 3) := by decide +kernel
theorem d_M_turn_16 : decode b_M_turn 16 = .ok (.iload_n 1, 1) := by decide +kernel
theorem d_M_turn_17 : decode b_M_turn 17 = .ok (.laload, 1) := by decide +kernel
theorem d_M_turn_18 : decode b_M_turn 18 = .ok (.lstore_n 2, 1) := by decide +kernel
theorem d_M_turn_19 : decode b_M_turn 19 = .ok (.aload_n 0, 1) := by decide +kernel
theorem d_M_turn_20 : decode b_M_turn 20 = .ok (.getfield 30, 3) := by decide +kernel
theorem d_M_turn_23 : decode b_M_turn 23 = .ok (.iload_n 1, 1) := by decide +kernel
theorem d_M_turn_24 : decode b_M_turn 24 = .ok (.aload_n 0, 1) := by decide +kernel
theorem d_M_turn_25 : decode b_M_turn 25 = .ok (.getfield 30, 3) := by decide +kernel
theorem d_M_turn_28 : decode b_M_turn 28 = .ok (.aload_n 0, 1) := by decide +kernel
theorem d_M_turn_29 : decode b_M_turn 29 = .ok (.getfield 108, 3) := by decide +kernel
theorem d_M_turn_32 : decode b_M_turn 32 = .ok (.iconst 1, 1) := by decide +kernel
theorem d_M_turn_33 : decode b_M_turn 33 = .ok (.isub, 1) := by decide +kernel
theorem d_M_turn_34 : decode b_M_turn 34 = .ok (.iload_n 1, 1) := by decide +kernel
theorem d_M_turn_35 : decode b_M_turn 35 = .ok (.isub, 1) := by decide +kernel
theorem d_M_turn_36 : decode b_M_turn 36 = .ok (.laload, 1) := by decide +kernel
theorem d_M_turn_37 : decode b_M_turn 37 = .ok (.lastore, 1) := by decide +kernel
theorem d_M_turn_38 : decode b_M_turn 38 = .ok (.aload_n 0, 1) := by decide +kernel
theorem d_M_turn_39 : decode b_M_turn 39 = .ok (.getfield 30, 3) := by decide +kernel
theorem d_M_turn_42 : decode b_M_turn 42 = .ok (.aload_n 0, 1) := by decide +kernel
theorem d_M_turn_43 : decode b_M_turn 43 = .ok (.getfield 108, 3) := by decide +kernel
theorem d_M_turn_46 : decode b_M_turn 46 = .ok (.iconst 1, 1) := by decide +kernel
theorem d_M_turn_47 : decode b_M_turn 47 = .ok (.isub, 1) := by decide +kernel
theorem d_M_turn_48 : decode b_M_turn 48 = .ok (.iload_n 1, 1) := by decide +kernel
theorem d_M_turn_49 : decode b_M_turn 49 = .ok (.isub, 1) := by decide +kernel
theorem d_M_turn_50 : decode b_M_turn 50 = .ok (.lload_n 2, 1) := by decide +kernel
theorem d_M_turn_51 : decode b_M_turn 51 = .ok (.lastore, 1) := by decide +kernel
theorem d_M_turn_52 : decode b_M_turn 52 = .ok (.iinc 1 1, 3) := by decide +kernel
theorem d_M_turn_55 : decode b_M_turn 55 = .ok (.goto (-53), 3) := by decide +kernel
theorem d_M_turn_58 : decode b_M_turn 58 = .ok (.return_, 1) := by decide +kernel
theorem d_M_say_0 : decode b_M_say 0 = .ok (.aload_n 0, 1) := by decide +kernel
theorem d_M_say_1 : decode b_M_say 1 = .ok (.getfield 30, 3) := by decide +kernel
theorem d_M_say_4 : decode b_M_say 4 = .ok (.aload_n 0, 1) := by decide +kernel
theorem d_M_say_5 : decode b_M_say 5 = .ok (.getfield 108, 3) := by decide +kernel
theorem d_M_say_8 : decode b_M_say 8 = .ok (.lload_n 1, 1) := by decide +kernel
theorem d_M_say_9 : decode b_M_say 9 = .ok (.lastore, 1) := by decide +kernel
theorem d_M_say_10 : decode b_M_say 10 = .ok (.aload_n 0, 1) := by decide +kernel
theorem d_M_say_11 : decode b_M_say 11 = .ok (.aload_n 0, 1) := by decide +kernel
theorem d_M_say_12 : decode b_M_say 12 = .ok (.getfield 108, 3) := by decide +kernel
theorem d_M_say_15 : decode b_M_say 15 = .ok (.iconst 1, 1) := by decide +kernel
theorem d_M_say_16 : decode b_M_say 16 = .ok (.iadd, 1) := by decide +kernel
theorem d_M_say_17 : decode b_M_say 17 = .ok (.putfield 108, 3) := by decide +kernel
theorem d_M_say_20 : decode b_M_say 20 = .ok (.return_, 1) := by decide +kernel
theorem d_M_proof_0 : decode b_M_proof 0 = .ok (.iload_n 1, 1) := by decide +kernel
theorem d_M_proof_1 : decode b_M_proof 1 = .ok (.ifCond .lt 20, 3) := by decide +kernel
theorem d_M_proof_4 : decode b_M_proof 4 = .ok (.iload_n 1, 1) := by decide +kernel
theorem d_M_proof_5 : decode b_M_proof 5 = .ok (.aload_n 0, 1) := by decide +kernel
theorem d_M_proof_6 : decode b_M_proof 6 = .ok (.getfield 108, 3) := by decide +kernel
theorem d_M_proof_9 : decode b_M_proof 9 = .ok (.if_icmp .ge 12, 3) := by decide +kernel
theorem d_M_proof_12 : decode b_M_proof 12 = .ok (.aload_n 0, 1) := by decide +kernel
theorem d_M_proof_13 : decode b_M_proof 13 = .ok (.getfield 30, 3) := by decide +kernel
theorem d_M_proof_16 : decode b_M_proof 16 = .ok (.iload_n 1, 1) := by decide +kernel
theorem d_M_proof_17 : decode b_M_proof 17 = .ok (.laload, 1) := by decide +kernel
theorem d_M_proof_18 : decode b_M_proof 18 = .ok (.goto 4, 3) := by decide +kernel
theorem d_M_proof_21 : decode b_M_proof 21 = .ok (.lconst 0, 1) := by decide +kernel
theorem d_M_proof_22 : decode b_M_proof 22 = .ok (.lreturn, 1) := by decide +kernel
theorem d_M_offer_0 : decode b_M_offer 0 = .ok (.iload_n 1, 1) := by decide +kernel
theorem d_M_offer_1 : decode b_M_offer 1 = .ok (.ifCond .lt 9, 3) := by decide +kernel
theorem d_M_offer_4 : decode b_M_offer 4 = .ok (.iload_n 1, 1) := by decide +kernel
theorem d_M_offer_5 : decode b_M_offer 5 = .ok (.bipush 7, 2) := by decide +kernel
theorem d_M_offer_7 : decode b_M_offer 7 = .ok (.if_icmp .le 5, 3) := by decide +kernel
theorem d_M_offer_10 : decode b_M_offer 10 = .ok (.iconst 0, 1) := by decide +kernel
theorem d_M_offer_11 : decode b_M_offer 11 = .ok (.ireturn, 1) := by decide +kernel
theorem d_M_offer_12 : decode b_M_offer 12 = .ok (.aload_n 0, 1) := by decide +kernel
theorem d_M_offer_13 : decode b_M_offer 13 = .ok (.getfield 33, 3) := by decide +kernel
theorem d_M_offer_16 : decode b_M_offer 16 = .ok (.iload_n 1, 1) := by decide +kernel
theorem d_M_offer_17 : decode b_M_offer 17 = .ok (.lload_n 2, 1) := by decide +kernel
theorem d_M_offer_18 : decode b_M_offer 18 = .ok (.lastore, 1) := by decide +kernel
theorem d_M_offer_19 : decode b_M_offer 19 = .ok (.iconst 1, 1) := by decide +kernel
theorem d_M_offer_20 : decode b_M_offer 20 = .ok (.ireturn, 1) := by decide +kernel
theorem d_M_offers_0 : decode b_M_offers 0 = .ok (.iload_n 1, 1) := by decide +kernel
theorem d_M_offers_1 : decode b_M_offers 1 = .ok (.ifCond .lt 9, 3) := by decide +kernel
theorem d_M_offers_4 : decode b_M_offers 4 = .ok (.iload_n 1, 1) := by decide +kernel
theorem d_M_offers_5 : decode b_M_offers 5 = .ok (.bipush 8, 2) := by decide +kernel
theorem d_M_offers_7 : decode b_M_offers 7 = .ok (.if_icmp .le 5, 3) := by decide +kernel
theorem d_M_offers_10 : decode b_M_offers 10 = .ok (.iconst 0, 1) := by decide +kernel
theorem d_M_offers_11 : decode b_M_offers 11 = .ok (.ireturn, 1) := by decide +kernel
theorem d_M_offers_12 : decode b_M_offers 12 = .ok (.aload_n 0, 1) := by decide +kernel
theorem d_M_offers_13 : decode b_M_offers 13 = .ok (.iload_n 1, 1) := by decide +kernel
theorem d_M_offers_14 : decode b_M_offers 14 = .ok (.putfield 122, 3) := by decide +kernel
theorem d_M_offers_17 : decode b_M_offers 17 = .ok (.iconst 1, 1) := by decide +kernel
theorem d_M_offers_18 : decode b_M_offers 18 = .ok (.ireturn, 1) := by decide +kernel
theorem d_M_halvings_0 : decode b_M_halvings 0 = .ok (.iconst 0, 1) := by decide +kernel
theorem d_M_halvings_1 : decode b_M_halvings 1 = .ok (.istore_n 1, 1) := by decide +kernel
theorem d_M_halvings_2 : decode b_M_halvings 2 = .ok (.iload_n 0, 1) := by decide +kernel
theorem d_M_halvings_3 : decode b_M_halvings 3 = .ok (.iload_n 1, 1) := by decide +kernel
theorem d_M_halvings_4 : decode b_M_halvings 4 = .ok (.ishr, 1) := by decide +kernel
theorem d_M_halvings_5 : decode b_M_halvings 5 = .ok (.ifCond .eq 18, 3) := by decide +kernel
theorem d_M_halvings_8 : decode b_M_halvings 8 = .ok (.iload_n 0, 1) := by decide +kernel
theorem d_M_halvings_9 : decode b_M_halvings 9 = .ok (.iload_n 1, 1) := by decide +kernel
theorem d_M_halvings_10 : decode b_M_halvings 10 = .ok (.ishr, 1) := by decide +kernel
theorem d_M_halvings_11 : decode b_M_halvings 11 = .ok (.iconst 1, 1) := by decide +kernel
theorem d_M_halvings_12 : decode b_M_halvings 12 = .ok (.iand, 1) := by decide +kernel
theorem d_M_halvings_13 : decode b_M_halvings 13 = .ok (.ifCond .ne 10, 3) := by decide +kernel
theorem d_M_halvings_16 : decode b_M_halvings 16 = .ok (.iload_n 1, 1) := by decide +kernel
theorem d_M_halvings_17 : decode b_M_halvings 17 = .ok (.iconst 1, 1) := by decide +kernel
theorem d_M_halvings_18 : decode b_M_halvings 18 = .ok (.iadd, 1) := by decide +kernel
theorem d_M_halvings_19 : decode b_M_halvings 19 = .ok (.istore_n 1, 1) := by decide +kernel
theorem d_M_halvings_20 : decode b_M_halvings 20 = .ok (.goto (-18), 3) := by decide +kernel
theorem d_M_halvings_23 : decode b_M_halvings 23 = .ok (.iload_n 1, 1) := by decide +kernel
theorem d_M_halvings_24 : decode b_M_halvings 24 = .ok (.ireturn, 1) := by decide +kernel
theorem d_M_buildRow_0 : decode b_M_buildRow 0 = .ok (.aload_n 0, 1) := by decide +kernel
theorem d_M_buildRow_1 : decode b_M_buildRow 1 = .ok (.iconst 0, 1) := by decide +kernel
theorem d_M_buildRow_2 : decode b_M_buildRow 2 = .ok (.putfield 129, 3) := by decide +kernel
theorem d_M_buildRow_5 : decode b_M_buildRow 5 = .ok (.iload_n 1, 1) := by decide +kernel
theorem d_M_buildRow_6 : decode b_M_buildRow 6 = .ok (.iload_n 1, 1) := by decide +kernel
theorem d_M_buildRow_7 : decode b_M_buildRow 7 = .ok (.iconst 1, 1) := by decide +kernel
theorem d_M_buildRow_8 : decode b_M_buildRow 8 = .ok (.isub, 1) := by decide +kernel
theorem d_M_buildRow_9 : decode b_M_buildRow 9 = .ok (.iand, 1) := by decide +kernel
theorem d_M_buildRow_10 : decode b_M_buildRow 10 = .ok (.ifCond .ne 15, 3) := by decide +kernel
theorem d_M_buildRow_13 : decode b_M_buildRow 13 = .ok (.aload_n 0, 1) := by decide +kernel
theorem d_M_buildRow_14 : decode b_M_buildRow 14 = .ok (.getfield 36, 3) := by decide +kernel
theorem d_M_buildRow_17 : decode b_M_buildRow 17 = .ok (.iconst 0, 1) := by decide +kernel
theorem d_M_buildRow_18 : decode b_M_buildRow 18 = .ok (.lload_n 2, 1) := by decide +kernel
theorem d_M_buildRow_19 : decode b_M_buildRow 19 = .ok (.lastore, 1) := by decide +kernel
theorem d_M_buildRow_20 : decode b_M_buildRow 20 = .ok (.aload_n 0, 1) := by decide +kernel
theorem d_M_buildRow_21 : decode b_M_buildRow 21 = .ok (.iconst 1, 1) := by decide +kernel
theorem d_M_buildRow_22 : decode b_M_buildRow 22 = .ok (.putfield 129, 3) := by decide +kernel
theorem d_M_buildRow_25 : decode b_M_buildRow 25 = .ok (.iconst 0, 1) := by decide +kernel
theorem d_M_buildRow_26 : decode b_M_buildRow 26 = .ok (.istore 4, 2) := by decide +kernel
theorem d_M_buildRow_28 : decode b_M_buildRow 28 = .ok (.iload 4, 2) := by decide +kernel
theorem d_M_buildRow_30 : decode b_M_buildRow 30 = .ok (.aload_n 0, 1) := by decide +kernel
theorem d_M_buildRow_31 : decode b_M_buildRow 31 = .ok (.getfield 122, 3) := by decide +kernel
theorem d_M_buildRow_34 : decode b_M_buildRow 34 = .ok (.if_icmp .ge 35, 3) := by decide +kernel
theorem d_M_buildRow_37 : decode b_M_buildRow 37 = .ok (.aload_n 0, 1) := by decide +kernel
theorem d_M_buildRow_38 : decode b_M_buildRow 38 = .ok (.getfield 36, 3) := by decide +kernel
theorem d_M_buildRow_41 : decode b_M_buildRow 41 = .ok (.aload_n 0, 1) := by decide +kernel
theorem d_M_buildRow_42 : decode b_M_buildRow 42 = .ok (.getfield 129, 3) := by decide +kernel
theorem d_M_buildRow_45 : decode b_M_buildRow 45 = .ok (.aload_n 0, 1) := by decide +kernel
theorem d_M_buildRow_46 : decode b_M_buildRow 46 = .ok (.getfield 33, 3) := by decide +kernel
theorem d_M_buildRow_49 : decode b_M_buildRow 49 = .ok (.iload 4, 2) := by decide +kernel
theorem d_M_buildRow_51 : decode b_M_buildRow 51 = .ok (.laload, 1) := by decide +kernel
theorem d_M_buildRow_52 : decode b_M_buildRow 52 = .ok (.lastore, 1) := by decide +kernel
theorem d_M_buildRow_53 : decode b_M_buildRow 53 = .ok (.aload_n 0, 1) := by decide +kernel
theorem d_M_buildRow_54 : decode b_M_buildRow 54 = .ok (.aload_n 0, 1) := by decide +kernel
theorem d_M_buildRow_55 : decode b_M_buildRow 55 = .ok (.getfield 129, 3) := by decide +kernel
theorem d_M_buildRow_58 : decode b_M_buildRow 58 = .ok (.iconst 1, 1) := by decide +kernel
theorem d_M_buildRow_59 : decode b_M_buildRow 59 = .ok (.iadd, 1) := by decide +kernel
theorem d_M_buildRow_60 : decode b_M_buildRow 60 = .ok (.putfield 129, 3) := by decide +kernel
theorem d_M_buildRow_63 : decode b_M_buildRow 63 = .ok (.iinc 4 1, 3) := by decide +kernel
theorem d_M_buildRow_66 : decode b_M_buildRow 66 = .ok (.goto (-38), 3) := by decide +kernel
theorem d_M_buildRow_69 : decode b_M_buildRow 69 = .ok (.return_, 1) := by decide +kernel
