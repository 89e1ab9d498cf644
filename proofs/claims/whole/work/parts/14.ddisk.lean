theorem d_D_init_0 : decode b_D_init 0 = .ok (.aload_n 0, 1) := by decide +kernel
theorem d_D_init_1 : decode b_D_init 1 = .ok (.invokespecial 3, 3) := by decide +kernel
theorem d_D_init_4 : decode b_D_init 4 = .ok (.aload_n 0, 1) := by decide +kernel
theorem d_D_init_5 : decode b_D_init 5 = .ok (.bipush 64, 2) := by decide +kernel
theorem d_D_init_7 : decode b_D_init 7 = .ok (.newarray .long, 2) := by decide +kernel
theorem d_D_init_9 : decode b_D_init 9 = .ok (.putfield 9, 3) := by decide +kernel
theorem d_D_init_12 : decode b_D_init 12 = .ok (.aload_n 0, 1) := by decide +kernel
theorem d_D_init_13 : decode b_D_init 13 = .ok (.bipush 9, 2) := by decide +kernel
theorem d_D_init_15 : decode b_D_init 15 = .ok (.bipush 8, 2) := by decide +kernel
theorem d_D_init_17 : decode b_D_init 17 = .ok (.multianewarray 15 2, 4) := by decide +kernel
theorem d_D_init_21 : decode b_D_init 21 = .ok (.putfield 17, 3) := by decide +kernel
theorem d_D_init_24 : decode b_D_init 24 = .ok (.aload_n 0, 1) := by decide +kernel
theorem d_D_init_25 : decode b_D_init 25 = .ok (.iconst 2, 1) := by decide +kernel
theorem d_D_init_26 : decode b_D_init 26 = .ok (.newarray .int, 2) := by decide +kernel
theorem d_D_init_28 : decode b_D_init 28 = .ok (.putfield 20, 3) := by decide +kernel
theorem d_D_init_31 : decode b_D_init 31 = .ok (.aload_n 0, 1) := by decide +kernel
theorem d_D_init_32 : decode b_D_init 32 = .ok (.iconst 2, 1) := by decide +kernel
theorem d_D_init_33 : decode b_D_init 33 = .ok (.newarray .int, 2) := by decide +kernel
theorem d_D_init_35 : decode b_D_init 35 = .ok (.putfield 24, 3) := by decide +kernel
theorem d_D_init_38 : decode b_D_init 38 = .ok (.aload_n 0, 1) := by decide +kernel
theorem d_D_init_39 : decode b_D_init 39 = .ok (.iconst 2, 1) := by decide +kernel
theorem d_D_init_40 : decode b_D_init 40 = .ok (.newarray .long, 2) := by decide +kernel
theorem d_D_init_42 : decode b_D_init 42 = .ok (.putfield 27, 3) := by decide +kernel
theorem d_D_init_45 : decode b_D_init 45 = .ok (.aload_n 0, 1) := by decide +kernel
theorem d_D_init_46 : decode b_D_init 46 = .ok (.bipush 8, 2) := by decide +kernel
theorem d_D_init_48 : decode b_D_init 48 = .ok (.newarray .long, 2) := by decide +kernel
theorem d_D_init_50 : decode b_D_init 50 = .ok (.putfield 30, 3) := by decide +kernel
theorem d_D_init_53 : decode b_D_init 53 = .ok (.aload_n 0, 1) := by decide +kernel
theorem d_D_init_54 : decode b_D_init 54 = .ok (.iconst 0, 1) := by decide +kernel
theorem d_D_init_55 : decode b_D_init 55 = .ok (.putfield 33, 3) := by decide +kernel
theorem d_D_init_58 : decode b_D_init 58 = .ok (.aload_n 0, 1) := by decide +kernel
theorem d_D_init_59 : decode b_D_init 59 = .ok (.iconst 0, 1) := by decide +kernel
theorem d_D_init_60 : decode b_D_init 60 = .ok (.putfield 37, 3) := by decide +kernel
theorem d_D_init_63 : decode b_D_init 63 = .ok (.aload_n 0, 1) := by decide +kernel
theorem d_D_init_64 : decode b_D_init 64 = .ok (.iconst (-1), 1) := by decide +kernel
theorem d_D_init_65 : decode b_D_init 65 = .ok (.putfield 40, 3) := by decide +kernel
theorem d_D_init_68 : decode b_D_init 68 = .ok (.aload_n 0, 1) := by decide +kernel
theorem d_D_init_69 : decode b_D_init 69 = .ok (.iconst 0, 1) := by decide +kernel
theorem d_D_init_70 : decode b_D_init 70 = .ok (.putfield 43, 3) := by decide +kernel
theorem d_D_init_73 : decode b_D_init 73 = .ok (.return_, 1) := by decide +kernel
theorem d_D_hasHead_0 : decode b_D_hasHead 0 = .ok (.iload_n 1, 1) := by decide +kernel
theorem d_D_hasHead_1 : decode b_D_hasHead 1 = .ok (.ifCond .lt 21, 3) := by decide +kernel
theorem d_D_hasHead_4 : decode b_D_hasHead 4 = .ok (.iload_n 1, 1) := by decide +kernel
theorem d_D_hasHead_5 : decode b_D_hasHead 5 = .ok (.iconst 2, 1) := by decide +kernel
theorem d_D_hasHead_6 : decode b_D_hasHead 6 = .ok (.if_icmp .ge 16, 3) := by decide +kernel
theorem d_D_hasHead_9 : decode b_D_hasHead 9 = .ok (.aload_n 0, 1) := by decide +kernel
theorem d_D_hasHead_10 : decode b_D_hasHead 10 = .ok (.getfield 20, 3) := by decide +kernel
theorem d_D_hasHead_13 : decode b_D_hasHead 13 = .ok (.iload_n 1, 1) := by decide +kernel
theorem d_D_hasHead_14 : decode b_D_hasHead 14 = .ok (.iaload, 1) := by decide +kernel
theorem d_D_hasHead_15 : decode b_D_hasHead 15 = .ok (.ifCond .eq 7, 3) := by decide +kernel
theorem d_D_hasHead_18 : decode b_D_hasHead 18 = .ok (.iconst 1, 1) := by decide +kernel
theorem d_D_hasHead_19 : decode b_D_hasHead 19 = .ok (.goto 4, 3) := by decide +kernel
theorem d_D_hasHead_22 : decode b_D_hasHead 22 = .ok (.iconst 0, 1) := by decide +kernel
theorem d_D_hasHead_23 : decode b_D_hasHead 23 = .ok (.ireturn, 1) := by decide +kernel
theorem d_D_latestPlace_0 : decode b_D_latestPlace 0 = .ok (.aload_n 0, 1) := by decide +kernel
theorem d_D_latestPlace_1 : decode b_D_latestPlace 1 = .ok (.getfield 20, 3) := by decide +kernel
theorem d_D_latestPlace_4 : decode b_D_latestPlace 4 = .ok (.iconst 1, 1) := by decide +kernel
theorem d_D_latestPlace_5 : decode b_D_latestPlace 5 = .ok (.iaload, 1) := by decide +kernel
theorem d_D_latestPlace_6 : decode b_D_latestPlace 6 = .ok (.aload_n 0, 1) := by decide +kernel
theorem d_D_latestPlace_7 : decode b_D_latestPlace 7 = .ok (.getfield 20, 3) := by decide +kernel
theorem d_D_latestPlace_10 : decode b_D_latestPlace 10 = .ok (.iconst 0, 1) := by decide +kernel
theorem d_D_latestPlace_11 : decode b_D_latestPlace 11 = .ok (.iaload, 1) := by decide +kernel
theorem d_D_latestPlace_12 : decode b_D_latestPlace 12 = .ok (.if_icmp .le 7, 3) := by decide +kernel
theorem d_D_latestPlace_15 : decode b_D_latestPlace 15 = .ok (.iconst 1, 1) := by decide +kernel
theorem d_D_latestPlace_16 : decode b_D_latestPlace 16 = .ok (.goto 4, 3) := by decide +kernel
theorem d_D_latestPlace_19 : decode b_D_latestPlace 19 = .ok (.iconst 0, 1) := by decide +kernel
theorem d_D_latestPlace_20 : decode b_D_latestPlace 20 = .ok (.ireturn, 1) := by decide +kernel
theorem d_D_latestNumber_0 : decode b_D_latestNumber 0 = .ok (.aload_n 0, 1) := by decide +kernel
theorem d_D_latestNumber_1 : decode b_D_latestNumber 1 = .ok (.getfield 20, 3) := by decide +kernel
theorem d_D_latestNumber_4 : decode b_D_latestNumber 4 = .ok (.aload_n 0, 1) := by decide +kernel
theorem d_D_latestNumber_5 : decode b_D_latestNumber 5 = .ok (.invokevirtual 47, 3) := by decide +kernel
theorem d_D_latestNumber_8 : decode b_D_latestNumber 8 = .ok (.iaload, 1) := by decide +kernel
theorem d_D_latestNumber_9 : decode b_D_latestNumber 9 = .ok (.ireturn, 1) := by decide +kernel
theorem d_D_publishedSize_0 : decode b_D_publishedSize 0 = .ok (.aload_n 0, 1) := by decide +kernel
theorem d_D_publishedSize_1 : decode b_D_publishedSize 1 = .ok (.getfield 24, 3) := by decide +kernel
theorem d_D_publishedSize_4 : decode b_D_publishedSize 4 = .ok (.aload_n 0, 1) := by decide +kernel
theorem d_D_publishedSize_5 : decode b_D_publishedSize 5 = .ok (.invokevirtual 47, 3) := by decide +kernel
theorem d_D_publishedSize_8 : decode b_D_publishedSize 8 = .ok (.iaload, 1) := by decide +kernel
theorem d_D_publishedSize_9 : decode b_D_publishedSize 9 = .ok (.ireturn, 1) := by decide +kernel
theorem d_D_beginWrite_0 : decode b_D_beginWrite 0 = .ok (.aload_n 0, 1) := by decide +kernel
theorem d_D_beginWrite_1 : decode b_D_beginWrite 1 = .ok (.getfield 40, 3) := by decide +kernel
theorem d_D_beginWrite_4 : decode b_D_beginWrite 4 = .ok (.ifCond .ne 15, 3) := by decide +kernel
theorem d_D_beginWrite_7 : decode b_D_beginWrite 7 = .ok (.aload_n 0, 1) := by decide +kernel
theorem d_D_beginWrite_8 : decode b_D_beginWrite 8 = .ok (.iconst (-1), 1) := by decide +kernel
theorem d_D_beginWrite_9 : decode b_D_beginWrite 9 = .ok (.putfield 40, 3) := by decide +kernel
theorem d_D_beginWrite_12 : decode b_D_beginWrite 12 = .ok (.aload_n 0, 1) := by decide +kernel
theorem d_D_beginWrite_13 : decode b_D_beginWrite 13 = .ok (.iconst 1, 1) := by decide +kernel
theorem d_D_beginWrite_14 : decode b_D_beginWrite 14 = .ok (.putfield 43, 3) := by decide +kernel
theorem d_D_beginWrite_17 : decode b_D_beginWrite 17 = .ok (.iconst 0, 1) := by decide +kernel
theorem d_D_beginWrite_18 : decode b_D_beginWrite 18 = .ok (.ireturn, 1) := by decide +kernel
theorem d_D_beginWrite_19 : decode b_D_beginWrite 19 = .ok (.aload_n 0, 1) := by decide +kernel
theorem d_D_beginWrite_20 : decode b_D_beginWrite 20 = .ok (.getfield 40, 3) := by decide +kernel
theorem d_D_beginWrite_23 : decode b_D_beginWrite 23 = .ok (.ifCond .le 13, 3) := by decide +kernel
theorem d_D_beginWrite_26 : decode b_D_beginWrite 26 = .ok (.aload_n 0, 1) := by decide +kernel
theorem d_D_beginWrite_27 : decode b_D_beginWrite 27 = .ok (.dup, 1) := by decide +kernel
theorem d_D_beginWrite_28 : decode b_D_beginWrite 28 = .ok (.getfield 40, 3) := by decide +kernel
theorem d_D_beginWrite_31 : decode b_D_beginWrite 31 = .ok (.iconst 1, 1) := by decide +kernel
theorem d_D_beginWrite_32 : decode b_D_beginWrite 32 = .ok (.isub, 1) := by decide +kernel
theorem d_D_beginWrite_33 : decode b_D_beginWrite 33 = .ok (.putfield 40, 3) := by decide +kernel
theorem d_D_beginWrite_36 : decode b_D_beginWrite 36 = .ok (.aload_n 0, 1) := by decide +kernel
theorem d_D_beginWrite_37 : decode b_D_beginWrite 37 = .ok (.dup, 1) := by decide +kernel
theorem d_D_beginWrite_38 : decode b_D_beginWrite 38 = .ok (.getfield 37, 3) := by decide +kernel
theorem d_D_beginWrite_41 : decode b_D_beginWrite 41 = .ok (.iconst 1, 1) := by decide +kernel
theorem d_D_beginWrite_42 : decode b_D_beginWrite 42 = .ok (.iadd, 1) := by decide +kernel
theorem d_D_beginWrite_43 : decode b_D_beginWrite 43 = .ok (.putfield 37, 3) := by decide +kernel
theorem d_D_beginWrite_46 : decode b_D_beginWrite 46 = .ok (.iconst 1, 1) := by decide +kernel
theorem d_D_beginWrite_47 : decode b_D_beginWrite 47 = .ok (.ireturn, 1) := by decide +kernel
theorem d_D_writeEntry_0 : decode b_D_writeEntry 0 = .ok (.aload_n 0, 1) := by decide +kernel
theorem d_D_writeEntry_1 : decode b_D_writeEntry 1 = .ok (.invokevirtual 51, 3) := by decide +kernel
theorem d_D_writeEntry_4 : decode b_D_writeEntry 4 = .ok (.ifCond .ne 5, 3) := by decide +kernel
theorem d_D_writeEntry_7 : decode b_D_writeEntry 7 = .ok (.iconst 0, 1) := by decide +kernel
theorem d_D_writeEntry_8 : decode b_D_writeEntry 8 = .ok (.ireturn, 1) := by decide +kernel
theorem d_D_writeEntry_9 : decode b_D_writeEntry 9 = .ok (.aload_n 0, 1) := by decide +kernel
theorem d_D_writeEntry_10 : decode b_D_writeEntry 10 = .ok (.getfield 9, 3) := by decide +kernel
theorem d_D_writeEntry_13 : decode b_D_writeEntry 13 = .ok (.iload_n 1, 1) := by decide +kernel
theorem d_D_writeEntry_14 : decode b_D_writeEntry 14 = .ok (.lload_n 2, 1) := by decide +kernel
theorem d_D_writeEntry_15 : decode b_D_writeEntry 15 = .ok (.lastore, 1) := by decide +kernel
theorem d_D_writeEntry_16 : decode b_D_writeEntry 16 = .ok (.aload_n 0, 1) := by decide +kernel
theorem d_D_writeEntry_17 : decode b_D_writeEntry 17 = .ok (.iload_n 1, 1) := by decide +kernel
theorem d_D_writeEntry_18 : decode b_D_writeEntry 18 = .ok (.iconst 1, 1) := by decide +kernel
theorem d_D_writeEntry_19 : decode b_D_writeEntry 19 = .ok (.iadd, 1) := by decide +kernel
theorem d_D_writeEntry_20 : decode b_D_writeEntry 20 = .ok (.putfield 33, 3) := by decide +kernel
theorem d_D_writeEntry_23 : decode b_D_writeEntry 23 = .ok (.iconst 1, 1) := by decide +kernel
theorem d_D_writeEntry_24 : decode b_D_writeEntry 24 = .ok (.ireturn, 1) := by decide +kernel
theorem d_D_writeHead_0 : decode b_D_writeHead 0 = .ok (.aload_n 0, 1) := by decide +kernel
theorem d_D_writeHead_1 : decode b_D_writeHead 1 = .ok (.invokevirtual 51, 3) := by decide +kernel
theorem d_D_writeHead_4 : decode b_D_writeHead 4 = .ok (.ifCond .ne 5, 3) := by decide +kernel
theorem d_D_writeHead_7 : decode b_D_writeHead 7 = .ok (.iconst 0, 1) := by decide +kernel
theorem d_D_writeHead_8 : decode b_D_writeHead 8 = .ok (.ireturn, 1) := by decide +kernel
theorem d_D_writeHead_9 : decode b_D_writeHead 9 = .ok (.iload_n 1, 1) := by decide +kernel
theorem d_D_writeHead_10 : decode b_D_writeHead 10 = .ok (.iconst 1, 1) := by decide +kernel
theorem d_D_writeHead_11 : decode b_D_writeHead 11 = .ok (.iand, 1) := by decide +kernel
theorem d_D_writeHead_12 : decode b_D_writeHead 12 = .ok (.istore 5, 2) := by decide +kernel
theorem d_D_writeHead_14 : decode b_D_writeHead 14 = .ok (.aload_n 0, 1) := by decide +kernel
theorem d_D_writeHead_15 : decode b_D_writeHead 15 = .ok (.getfield 20, 3) := by decide +kernel
theorem d_D_writeHead_18 : decode b_D_writeHead 18 = .ok (.iload 5, 2) := by decide +kernel
theorem d_D_writeHead_20 : decode b_D_writeHead 20 = .ok (.iload_n 1, 1) := by decide +kernel
theorem d_D_writeHead_21 : decode b_D_writeHead 21 = .ok (.iastore, 1) := by decide +kernel
theorem d_D_writeHead_22 : decode b_D_writeHead 22 = .ok (.aload_n 0, 1) := by decide +kernel
theorem d_D_writeHead_23 : decode b_D_writeHead 23 = .ok (.getfield 24, 3) := by decide +kernel
theorem d_D_writeHead_26 : decode b_D_writeHead 26 = .ok (.iload 5, 2) := by decide +kernel
theorem d_D_writeHead_28 : decode b_D_writeHead 28 = .ok (.iload_n 2, 1) := by decide +kernel
theorem d_D_writeHead_29 : decode b_D_writeHead 29 = .ok (.iastore, 1) := by decide +kernel
theorem d_D_writeHead_30 : decode b_D_writeHead 30 = .ok (.aload_n 0, 1) := by decide +kernel
theorem d_D_writeHead_31 : decode b_D_writeHead 31 = .ok (.getfield 27, 3) := by decide +kernel
theorem d_D_writeHead_34 : decode b_D_writeHead 34 = .ok (.iload 5, 2) := by decide +kernel
theorem d_D_writeHead_36 : decode b_D_writeHead 36 = .ok (.lload_n 3, 1) := by decide +kernel
theorem d_D_writeHead_37 : decode b_D_writeHead 37 = .ok (.lastore, 1) := by decide +kernel
theorem d_D_writeHead_38 : decode b_D_writeHead 38 = .ok (.iconst 1, 1) := by decide +kernel
theorem d_D_writeHead_39 : decode b_D_writeHead 39 = .ok (.ireturn, 1) := by decide +kernel
theorem d_D_writeTilesFor_0 : decode b_D_writeTilesFor 0 = .ok (.iconst 0, 1) := by decide +kernel
theorem d_D_writeTilesFor_1 : decode b_D_writeTilesFor 1 = .ok (.istore_n 2, 1) := by decide +kernel
theorem d_D_writeTilesFor_2 : decode b_D_writeTilesFor 2 = .ok (.iload_n 2, 1) := by decide +kernel
theorem d_D_writeTilesFor_3 : decode b_D_writeTilesFor 3 = .ok (.bipush 9, 2) := by decide +kernel
theorem d_D_writeTilesFor_5 : decode b_D_writeTilesFor 5 = .ok (.if_icmp .ge 28, 3) := by decide +kernel
theorem d_D_writeTilesFor_8 : decode b_D_writeTilesFor 8 = .ok (.aload_n 0, 1) := by decide +kernel
theorem d_D_writeTilesFor_9 : decode b_D_writeTilesFor 9 = .ok (.iload_n 2, 1) := by decide +kernel
theorem d_D_writeTilesFor_10 : decode b_D_writeTilesFor 10 = .ok (.iload_n 1, 1) := by decide +kernel
theorem d_D_writeTilesFor_11 : decode b_D_writeTilesFor 11 = .ok (.invokevirtual 55, 3) := by decide +kernel
theorem d_D_writeTilesFor_14 : decode b_D_writeTilesFor 14 = .ok (.ifCond .ne 13, 3) := by decide +kernel
theorem d_D_writeTilesFor_17 : decode b_D_writeTilesFor 17 = .ok (.aload_n 0, 1) := by decide +kernel
theorem d_D_writeTilesFor_18 : decode b_D_writeTilesFor 18 = .ok (.iload_n 2, 1) := by decide +kernel
theorem d_D_writeTilesFor_19 : decode b_D_writeTilesFor 19 = .ok (.invokevirtual 59, 3) := by decide +kernel
theorem d_D_writeTilesFor_22 : decode b_D_writeTilesFor 22 = .ok (.ifCond .ne 5, 3) := by decide +kernel
theorem d_D_writeTilesFor_25 : decode b_D_writeTilesFor 25 = .ok (.iconst 0, 1) := by decide +kernel
theorem d_D_writeTilesFor_26 : decode b_D_writeTilesFor 26 = .ok (.ireturn, 1) := by decide +kernel
theorem d_D_writeTilesFor_27 : decode b_D_writeTilesFor 27 = .ok (.iinc 2 1, 3) := by decide +kernel
theorem d_D_writeTilesFor_30 : decode b_D_writeTilesFor 30 = .ok (.goto (-28), 3) := by decide +kernel
theorem d_D_writeTilesFor_33 : decode b_D_writeTilesFor 33 = .ok (.iconst 1, 1) := by decide +kernel
theorem d_D_writeTilesFor_34 : decode b_D_writeTilesFor 34 = .ok (.ireturn, 1) := by decide +kernel
theorem d_D_isRight_0 : decode b_D_isRight 0 = .ok (.iconst 1, 1) := by decide +kernel
theorem d_D_isRight_1 : decode b_D_isRight 1 = .ok (.istore_n 3, 1) := by decide +kernel
theorem d_D_isRight_2 : decode b_D_isRight 2 = .ok (.iconst 0, 1) := by decide +kernel
theorem d_D_isRight_3 : decode b_D_isRight 3 = .ok (.istore 4, 2) := by decide +kernel
theorem d_D_isRight_5 : decode b_D_isRight 5 = .ok (.iload 4, 2) := by decide +kernel
theorem d_D_isRight_7 : decode b_D_isRight 7 = .ok (.bipush 8, 2) := by decide +kernel
theorem d_D_isRight_9 : decode b_D_isRight 9 = .ok (.if_icmp .ge 74, 3) := by decide +kernel
theorem d_D_isRight_12 : decode b_D_isRight 12 = .ok (.aload_n 0, 1) := by decide +kernel
theorem d_D_isRight_13 : decode b_D_isRight 13 = .ok (.getfield 30, 3) := by decide +kernel
theorem d_D_isRight_16 : decode b_D_isRight 16 = .ok (.iload 4, 2) := by decide +kernel
theorem d_D_isRight_18 : decode b_D_isRight 18 = .ok (.iload_n 1, 1) := by decide +kernel
theorem d_D_isRight_19 : decode b_D_isRight 19 = .ok (.bipush 8, 2) := by decide +kernel
theorem d_D_isRight_21 : decode b_D_isRight 21 = .ok (.if_icmp .ge 18, 3) := by decide +kernel
theorem d_D_isRight_24 : decode b_D_isRight 24 = .ok (.aload_n 0, 1) := by decide +kernel
theorem d_D_isRight_25 : decode b_D_isRight 25 = .ok (.iload_n 1, 1) := by decide +kernel
theorem d_D_isRight_26 : decode b_D_isRight 26 = .ok (.bipush 8, 2) := by decide +kernel
theorem d_D_isRight_28 : decode b_D_isRight 28 = .ok (.imul, 1) := by decide +kernel
theorem d_D_isRight_29 : decode b_D_isRight 29 = .ok (.iload 4, 2) := by decide +kernel
theorem d_D_isRight_31 : decode b_D_isRight 31 = .ok (.iadd, 1) := by decide +kernel
theorem d_D_isRight_32 : decode b_D_isRight 32 = .ok (.iload_n 2, 1) := by decide +kernel
theorem d_D_isRight_33 : decode b_D_isRight 33 = .ok (.invokevirtual 63, 3) := by decide +kernel
theorem d_D_isRight_36 : decode b_D_isRight 36 = .ok (.goto 10, 3) := by decide +kernel
theorem d_D_isRight_39 : decode b_D_isRight 39 = .ok (.aload_n 0, 1) := by decide +kernel
theorem d_D_isRight_40 : decode b_D_isRight 40 = .ok (.iload 4, 2) := by decide +kernel
theorem d_D_isRight_42 : decode b_D_isRight 42 = .ok (.iload_n 2, 1) := by decide +kernel
theorem d_D_isRight_43 : decode b_D_isRight 43 = .ok (.invokevirtual 67, 3) := by decide +kernel
theorem d_D_isRight_46 : decode b_D_isRight 46 = .ok (.lastore, 1) := by decide +kernel
theorem d_D_isRight_47 : decode b_D_isRight 47 = .ok (.iload_n 3, 1) := by decide +kernel
theorem d_D_isRight_48 : decode b_D_isRight 48 = .ok (.ifCond .eq 27, 3) := by decide +kernel
theorem d_D_isRight_51 : decode b_D_isRight 51 = .ok (.aload_n 0, 1) := by decide +kernel
theorem d_D_isRight_52 : decode b_D_isRight 52 = .ok (.getfield 17, 3) := by decide +kernel
theorem d_D_isRight_55 : decode b_D_isRight 55 = .ok (.iload_n 1, 1) := by decide +kernel
theorem d_D_isRight_56 : decode b_D_isRight 56 = .ok (.aaload, 1) := by decide +kernel
theorem d_D_isRight_57 : decode b_D_isRight 57 = .ok (.iload 4, 2) := by decide +kernel
theorem d_D_isRight_59 : decode b_D_isRight 59 = .ok (.laload, 1) := by decide +kernel
theorem d_D_isRight_60 : decode b_D_isRight 60 = .ok (.aload_n 0, 1) := by decide +kernel
theorem d_D_isRight_61 : decode b_D_isRight 61 = .ok (.getfield 30, 3) := by decide +kernel
theorem d_D_isRight_64 : decode b_D_isRight 64 = .ok (.iload 4, 2) := by decide +kernel
theorem d_D_isRight_66 : decode b_D_isRight 66 = .ok (.laload, 1) := by decide +kernel
theorem d_D_isRight_67 : decode b_D_isRight 67 = .ok (.lcmp, 1) := by decide +kernel
theorem d_D_isRight_68 : decode b_D_isRight 68 = .ok (.ifCond .ne 7, 3) := by decide +kernel
theorem d_D_isRight_71 : decode b_D_isRight 71 = .ok (.iconst 1, 1) := by decide +kernel
theorem d_D_isRight_72 : decode b_D_isRight 72 = .ok (.goto 4, 3) := by decide +kernel
theorem d_D_isRight_75 : decode b_D_isRight 75 = .ok (.iconst 0, 1) := by decide +kernel
theorem d_D_isRight_76 : decode b_D_isRight 76 = .ok (.istore_n 3, 1) := by decide +kernel
theorem d_D_isRight_77 : decode b_D_isRight 77 = .ok (.iinc 4 1, 3) := by decide +kernel
theorem d_D_isRight_80 : decode b_D_isRight 80 = .ok (.goto (-75), 3) := by decide +kernel
theorem d_D_isRight_83 : decode b_D_isRight 83 = .ok (.iload_n 3, 1) := by decide +kernel
theorem d_D_isRight_84 : decode b_D_isRight 84 = .ok (.ireturn, 1) := by decide +kernel
theorem d_D_leafBelow_0 : decode b_D_leafBelow 0 = .ok (.iload_n 1, 1) := by decide +kernel
theorem d_D_leafBelow_1 : decode b_D_leafBelow 1 = .ok (.iload_n 2, 1) := by decide +kernel
theorem d_D_leafBelow_2 : decode b_D_leafBelow 2 = .ok (.if_icmp .ge 15, 3) := by decide +kernel
theorem d_D_leafBelow_5 : decode b_D_leafBelow 5 = .ok (.aload_n 0, 1) := by decide +kernel
theorem d_D_leafBelow_6 : decode b_D_leafBelow 6 = .ok (.getfield 9, 3) := by decide +kernel
theorem d_D_leafBelow_9 : decode b_D_leafBelow 9 = .ok (.iload_n 1, 1) := by decide +kernel
theorem d_D_leafBelow_10 : decode b_D_leafBelow 10 = .ok (.laload, 1) := by decide +kernel
theorem d_D_leafBelow_11 : decode b_D_leafBelow 11 = .ok (.invokestatic 70, 3) := by decide +kernel
theorem d_D_leafBelow_14 : decode b_D_leafBelow 14 = .ok (.goto 4, 3) := by decide +kernel
theorem d_D_leafBelow_17 : decode b_D_leafBelow 17 = .ok (.lconst 0, 1) := by decide +kernel
theorem d_D_leafBelow_18 : decode b_D_leafBelow 18 = .ok (.lreturn, 1) := by decide +kernel
theorem d_D_groupBelow_0 : decode b_D_groupBelow 0 = .ok (.iload_n 1, 1) := by decide +kernel
theorem d_D_groupBelow_1 : decode b_D_groupBelow 1 = .ok (.bipush 8, 2) := by decide +kernel
theorem d_D_groupBelow_3 : decode b_D_groupBelow 3 = .ok (.imul, 1) := by decide +kernel
theorem d_D_groupBelow_4 : decode b_D_groupBelow 4 = .ok (.istore_n 3, 1) := by decide +kernel
theorem d_D_groupBelow_5 : decode b_D_groupBelow 5 = .ok (.iload_n 3, 1) := by decide +kernel
theorem d_D_groupBelow_6 : decode b_D_groupBelow 6 = .ok (.bipush 8, 2) := by decide +kernel
theorem d_D_groupBelow_8 : decode b_D_groupBelow 8 = .ok (.iadd, 1) := by decide +kernel
theorem d_D_groupBelow_9 : decode b_D_groupBelow 9 = .ok (.iload_n 2, 1) := by decide +kernel
theorem d_D_groupBelow_10 : decode b_D_groupBelow 10 = .ok (.if_icmp .gt 16, 3) := by decide +kernel
theorem d_D_groupBelow_13 : decode b_D_groupBelow 13 = .ok (.aload_n 0, 1) := by decide +kernel
theorem d_D_groupBelow_14 : decode b_D_groupBelow 14 = .ok (.getfield 9, 3) := by decide +kernel
theorem d_D_groupBelow_17 : decode b_D_groupBelow 17 = .ok (.iload_n 3, 1) := by decide +kernel
theorem d_D_groupBelow_18 : decode b_D_groupBelow 18 = .ok (.bipush 8, 2) := by decide +kernel
theorem d_D_groupBelow_20 : decode b_D_groupBelow 20 = .ok (.invokestatic 76, 3) := by decide +kernel
theorem d_D_groupBelow_23 : decode b_D_groupBelow 23 = .ok (.goto 4, 3) := by decide +kernel
theorem d_D_groupBelow_26 : decode b_D_groupBelow 26 = .ok (.lconst 0, 1) := by decide +kernel
theorem d_D_groupBelow_27 : decode b_D_groupBelow 27 = .ok (.lreturn, 1) := by decide +kernel
theorem d_D_writeTile_0 : decode b_D_writeTile 0 = .ok (.aload_n 0, 1) := by decide +kernel
theorem d_D_writeTile_1 : decode b_D_writeTile 1 = .ok (.invokevirtual 51, 3) := by decide +kernel
theorem d_D_writeTile_4 : decode b_D_writeTile 4 = .ok (.ifCond .ne 5, 3) := by decide +kernel
theorem d_D_writeTile_7 : decode b_D_writeTile 7 = .ok (.iconst 0, 1) := by decide +kernel
theorem d_D_writeTile_8 : decode b_D_writeTile 8 = .ok (.ireturn, 1) := by decide +kernel
theorem d_D_writeTile_9 : decode b_D_writeTile 9 = .ok (.aload_n 0, 1) := by decide +kernel
theorem d_D_writeTile_10 : decode b_D_writeTile 10 = .ok (.getfield 30, 3) := by decide +kernel
theorem d_D_writeTile_13 : decode b_D_writeTile 13 = .ok (.iconst 0, 1) := by decide +kernel
theorem d_D_writeTile_14 : decode b_D_writeTile 14 = .ok (.aload_n 0, 1) := by decide +kernel
theorem d_D_writeTile_15 : decode b_D_writeTile 15 = .ok (.getfield 17, 3) := by decide +kernel
theorem d_D_writeTile_18 : decode b_D_writeTile 18 = .ok (.iload_n 1, 1) := by decide +kernel
theorem d_D_writeTile_19 : decode b_D_writeTile 19 = .ok (.aaload, 1) := by decide +kernel
theorem d_D_writeTile_20 : decode b_D_writeTile 20 = .ok (.iconst 0, 1) := by decide +kernel
theorem d_D_writeTile_21 : decode b_D_writeTile 21 = .ok (.bipush 8, 2) := by decide +kernel
theorem d_D_writeTile_23 : decode b_D_writeTile 23 = .ok (.invokestatic 80, 3) := by decide +kernel
theorem d_D_writeTile_26 : decode b_D_writeTile 26 = .ok (.iconst 1, 1) := by decide +kernel
theorem d_D_writeTile_27 : decode b_D_writeTile 27 = .ok (.ireturn, 1) := by decide +kernel
