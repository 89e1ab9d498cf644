theorem d_T_init_0 : decode b_T_init 0 = .ok (.aload_n 0, 1) := by decide +kernel
theorem d_T_init_1 : decode b_T_init 1 = .ok (.invokespecial 1, 3) := by decide +kernel
theorem d_T_init_4 : decode b_T_init 4 = .ok (.aload_n 0, 1) := by decide +kernel
theorem d_T_init_5 : decode b_T_init 5 = .ok (.new 7, 3) := by decide +kernel
theorem d_T_init_8 : decode b_T_init 8 = .ok (.dup, 1) := by decide +kernel
theorem d_T_init_9 : decode b_T_init 9 = .ok (.invokespecial 9, 3) := by decide +kernel
theorem d_T_init_12 : decode b_T_init 12 = .ok (.putfield 10, 3) := by decide +kernel
theorem d_T_init_15 : decode b_T_init 15 = .ok (.aload_n 0, 1) := by decide +kernel
theorem d_T_init_16 : decode b_T_init 16 = .ok (.bipush 7, 2) := by decide +kernel
theorem d_T_init_18 : decode b_T_init 18 = .ok (.newarray .long, 2) := by decide +kernel
theorem d_T_init_20 : decode b_T_init 20 = .ok (.putfield 16, 3) := by decide +kernel
theorem d_T_init_23 : decode b_T_init 23 = .ok (.aload_n 0, 1) := by decide +kernel
theorem d_T_init_24 : decode b_T_init 24 = .ok (.iconst 0, 1) := by decide +kernel
theorem d_T_init_25 : decode b_T_init 25 = .ok (.putfield 20, 3) := by decide +kernel
theorem d_T_init_28 : decode b_T_init 28 = .ok (.aload_n 0, 1) := by decide +kernel
theorem d_T_init_29 : decode b_T_init 29 = .ok (.bipush 8, 2) := by decide +kernel
theorem d_T_init_31 : decode b_T_init 31 = .ok (.newarray .long, 2) := by decide +kernel
theorem d_T_init_33 : decode b_T_init 33 = .ok (.putfield 24, 3) := by decide +kernel
theorem d_T_init_36 : decode b_T_init 36 = .ok (.aload_n 0, 1) := by decide +kernel
theorem d_T_init_37 : decode b_T_init 37 = .ok (.iconst 0, 1) := by decide +kernel
theorem d_T_init_38 : decode b_T_init 38 = .ok (.putfield 27, 3) := by decide +kernel
theorem d_T_init_41 : decode b_T_init 41 = .ok (.return_, 1) := by decide +kernel
theorem d_T_append_0 : decode b_T_append 0 = .ok (.aload_n 0, 1) := by decide +kernel
theorem d_T_append_1 : decode b_T_append 1 = .ok (.getfield 10, 3) := by decide +kernel
theorem d_T_append_4 : decode b_T_append 4 = .ok (.getfield 30, 3) := by decide +kernel
theorem d_T_append_7 : decode b_T_append 7 = .ok (.ifCond .eq 6, 3) := by decide +kernel
theorem d_T_append_10 : decode b_T_append 10 = .ok (.bipush (-2), 2) := by decide +kernel
theorem d_T_append_12 : decode b_T_append 12 = .ok (.ireturn, 1) := by decide +kernel
theorem d_T_append_13 : decode b_T_append 13 = .ok (.aload_n 0, 1) := by decide +kernel
theorem d_T_append_14 : decode b_T_append 14 = .ok (.getfield 10, 3) := by decide +kernel
theorem d_T_append_17 : decode b_T_append 17 = .ok (.getfield 34, 3) := by decide +kernel
theorem d_T_append_20 : decode b_T_append 20 = .ok (.istore_n 3, 1) := by decide +kernel
theorem d_T_append_21 : decode b_T_append 21 = .ok (.iload_n 3, 1) := by decide +kernel
theorem d_T_append_22 : decode b_T_append 22 = .ok (.bipush 64, 2) := by decide +kernel
theorem d_T_append_24 : decode b_T_append 24 = .ok (.if_icmp .lt 5, 3) := by decide +kernel
theorem d_T_append_27 : decode b_T_append 27 = .ok (.iconst (-1), 1) := by decide +kernel
theorem d_T_append_28 : decode b_T_append 28 = .ok (.ireturn, 1) := by decide +kernel
theorem d_T_append_29 : decode b_T_append 29 = .ok (.aload_n 0, 1) := by decide +kernel
theorem d_T_append_30 : decode b_T_append 30 = .ok (.getfield 10, 3) := by decide +kernel
theorem d_T_append_33 : decode b_T_append 33 = .ok (.iload_n 3, 1) := by decide +kernel
theorem d_T_append_34 : decode b_T_append 34 = .ok (.lload_n 1, 1) := by decide +kernel
theorem d_T_append_35 : decode b_T_append 35 = .ok (.invokevirtual 37, 3) := by decide +kernel
theorem d_T_append_38 : decode b_T_append 38 = .ok (.ifCond .eq 7, 3) := by decide +kernel
theorem d_T_append_41 : decode b_T_append 41 = .ok (.iload_n 3, 1) := by decide +kernel
theorem d_T_append_42 : decode b_T_append 42 = .ok (.goto 5, 3) := by decide +kernel
theorem d_T_append_45 : decode b_T_append 45 = .ok (.bipush (-3), 2) := by decide +kernel
theorem d_T_append_47 : decode b_T_append 47 = .ok (.ireturn, 1) := by decide +kernel
theorem d_T_publish_0 : decode b_T_publish 0 = .ok (.aload_n 0, 1) := by decide +kernel
theorem d_T_publish_1 : decode b_T_publish 1 = .ok (.getfield 10, 3) := by decide +kernel
theorem d_T_publish_4 : decode b_T_publish 4 = .ok (.getfield 30, 3) := by decide +kernel
theorem d_T_publish_7 : decode b_T_publish 7 = .ok (.ifCond .eq 6, 3) := by decide +kernel
theorem d_T_publish_10 : decode b_T_publish 10 = .ok (.bipush (-2), 2) := by decide +kernel
theorem d_T_publish_12 : decode b_T_publish 12 = .ok (.ireturn, 1) := by decide +kernel
theorem d_T_publish_13 : decode b_T_publish 13 = .ok (.aload_n 0, 1) := by decide +kernel
theorem d_T_publish_14 : decode b_T_publish 14 = .ok (.getfield 10, 3) := by decide +kernel
theorem d_T_publish_17 : decode b_T_publish 17 = .ok (.getfield 34, 3) := by decide +kernel
theorem d_T_publish_20 : decode b_T_publish 20 = .ok (.istore_n 1, 1) := by decide +kernel
theorem d_T_publish_21 : decode b_T_publish 21 = .ok (.iload_n 1, 1) := by decide +kernel
theorem d_T_publish_22 : decode b_T_publish 22 = .ok (.aload_n 0, 1) := by decide +kernel
theorem d_T_publish_23 : decode b_T_publish 23 = .ok (.getfield 10, 3) := by decide +kernel
theorem d_T_publish_26 : decode b_T_publish 26 = .ok (.invokevirtual 41, 3) := by decide +kernel
theorem d_T_publish_29 : decode b_T_publish 29 = .ok (.if_icmp .eq 59, 3) := by decide +kernel
theorem d_T_publish_32 : decode b_T_publish 32 = .ok (.aload_n 0, 1) := by decide +kernel
theorem d_T_publish_33 : decode b_T_publish 33 = .ok (.getfield 10, 3) := by decide +kernel
theorem d_T_publish_36 : decode b_T_publish 36 = .ok (.iload_n 1, 1) := by decide +kernel
theorem d_T_publish_37 : decode b_T_publish 37 = .ok (.invokevirtual 45, 3) := by decide +kernel
theorem d_T_publish_40 : decode b_T_publish 40 = .ok (.ifCond .eq 39, 3) := by decide +kernel
theorem d_T_publish_43 : decode b_T_publish 43 = .ok (.aload_n 0, 1) := by decide +kernel
theorem d_T_publish_44 : decode b_T_publish 44 = .ok (.getfield 10, 3) := by decide +kernel
theorem d_T_publish_47 : decode b_T_publish 47 = .ok (.aload_n 0, 1) := by decide +kernel
theorem d_T_publish_48 : decode b_T_publish 48 = .ok (.getfield 10, 3) := by decide +kernel
theorem d_T_publish_51 : decode b_T_publish 51 = .ok (.invokevirtual 49, 3) := by decide +kernel
theorem d_T_publish_54 : decode b_T_publish 54 = .ok (.iconst 1, 1) := by decide +kernel
theorem d_T_publish_55 : decode b_T_publish 55 = .ok (.iadd, 1) := by decide +kernel
theorem d_T_publish_56 : decode b_T_publish 56 = .ok (.iload_n 1, 1) := by decide +kernel
theorem d_T_publish_57 : decode b_T_publish 57 = .ok (.aload_n 0, 1) := by decide +kernel
theorem d_T_publish_58 : decode b_T_publish 58 = .ok (.getfield 10, 3) := by decide +kernel
theorem d_T_publish_61 : decode b_T_publish 61 = .ok (.getfield 52, 3) := by decide +kernel
theorem d_T_publish_64 : decode b_T_publish 64 = .ok (.iconst 0, 1) := by decide +kernel
theorem d_T_publish_65 : decode b_T_publish 65 = .ok (.iload_n 1, 1) := by decide +kernel
theorem d_T_publish_66 : decode b_T_publish 66 = .ok (.invokestatic 55, 3) := by decide +kernel
theorem d_T_publish_69 : decode b_T_publish 69 = .ok (.invokevirtual 61, 3) := by decide +kernel
theorem d_T_publish_72 : decode b_T_publish 72 = .ok (.ifCond .eq 7, 3) := by decide +kernel
theorem d_T_publish_75 : decode b_T_publish 75 = .ok (.iconst 1, 1) := by decide +kernel
theorem d_T_publish_76 : decode b_T_publish 76 = .ok (.goto 4, 3) := by decide +kernel
theorem d_T_publish_79 : decode b_T_publish 79 = .ok (.iconst 0, 1) := by decide +kernel
theorem d_T_publish_80 : decode b_T_publish 80 = .ok (.istore_n 2, 1) := by decide +kernel
theorem d_T_publish_81 : decode b_T_publish 81 = .ok (.iload_n 2, 1) := by decide +kernel
theorem d_T_publish_82 : decode b_T_publish 82 = .ok (.ifCond .ne 6, 3) := by decide +kernel
theorem d_T_publish_85 : decode b_T_publish 85 = .ok (.bipush (-3), 2) := by decide +kernel
theorem d_T_publish_87 : decode b_T_publish 87 = .ok (.ireturn, 1) := by decide +kernel
theorem d_T_publish_88 : decode b_T_publish 88 = .ok (.aload_n 0, 1) := by decide +kernel
theorem d_T_publish_89 : decode b_T_publish 89 = .ok (.getfield 10, 3) := by decide +kernel
theorem d_T_publish_92 : decode b_T_publish 92 = .ok (.invokevirtual 49, 3) := by decide +kernel
theorem d_T_publish_95 : decode b_T_publish 95 = .ok (.ireturn, 1) := by decide +kernel
theorem d_T_order_0 : decode b_T_order 0 = .ok (.iload_n 1, 1) := by decide +kernel
theorem d_T_order_1 : decode b_T_order 1 = .ok (.ifCond .lt 9, 3) := by decide +kernel
theorem d_T_order_4 : decode b_T_order 4 = .ok (.iload_n 1, 1) := by decide +kernel
theorem d_T_order_5 : decode b_T_order 5 = .ok (.bipush 20, 2) := by decide +kernel
theorem d_T_order_7 : decode b_T_order 7 = .ok (.if_icmp .le 5, 3) := by decide +kernel
theorem d_T_order_10 : decode b_T_order 10 = .ok (.iconst 0, 1) := by decide +kernel
theorem d_T_order_11 : decode b_T_order 11 = .ok (.ireturn, 1) := by decide +kernel
theorem d_T_order_12 : decode b_T_order 12 = .ok (.aload_n 0, 1) := by decide +kernel
theorem d_T_order_13 : decode b_T_order 13 = .ok (.getfield 10, 3) := by decide +kernel
theorem d_T_order_16 : decode b_T_order 16 = .ok (.iload_n 1, 1) := by decide +kernel
theorem d_T_order_17 : decode b_T_order 17 = .ok (.putfield 65, 3) := by decide +kernel
theorem d_T_order_20 : decode b_T_order 20 = .ok (.iconst 1, 1) := by decide +kernel
theorem d_T_order_21 : decode b_T_order 21 = .ok (.ireturn, 1) := by decide +kernel
theorem d_T_recover_0 : decode b_T_recover 0 = .ok (.aload_n 0, 1) := by decide +kernel
theorem d_T_recover_1 : decode b_T_recover 1 = .ok (.getfield 10, 3) := by decide +kernel
theorem d_T_recover_4 : decode b_T_recover 4 = .ok (.getfield 30, 3) := by decide +kernel
theorem d_T_recover_7 : decode b_T_recover 7 = .ok (.ifCond .ne 5, 3) := by decide +kernel
theorem d_T_recover_10 : decode b_T_recover 10 = .ok (.iconst (-1), 1) := by decide +kernel
theorem d_T_recover_11 : decode b_T_recover 11 = .ok (.ireturn, 1) := by decide +kernel
theorem d_T_recover_12 : decode b_T_recover 12 = .ok (.aload_n 0, 1) := by decide +kernel
theorem d_T_recover_13 : decode b_T_recover 13 = .ok (.getfield 10, 3) := by decide +kernel
theorem d_T_recover_16 : decode b_T_recover 16 = .ok (.aload_n 0, 1) := by decide +kernel
theorem d_T_recover_17 : decode b_T_recover 17 = .ok (.getfield 10, 3) := by decide +kernel
theorem d_T_recover_20 : decode b_T_recover 20 = .ok (.invokevirtual 41, 3) := by decide +kernel
theorem d_T_recover_23 : decode b_T_recover 23 = .ok (.invokevirtual 45, 3) := by decide +kernel
theorem d_T_recover_26 : decode b_T_recover 26 = .ok (.ifCond .ne 6, 3) := by decide +kernel
theorem d_T_recover_29 : decode b_T_recover 29 = .ok (.bipush (-3), 2) := by decide +kernel
theorem d_T_recover_31 : decode b_T_recover 31 = .ok (.ireturn, 1) := by decide +kernel
theorem d_T_recover_32 : decode b_T_recover 32 = .ok (.aload_n 0, 1) := by decide +kernel
theorem d_T_recover_33 : decode b_T_recover 33 = .ok (.getfield 10, 3) := by decide +kernel
theorem d_T_recover_36 : decode b_T_recover 36 = .ok (.iconst 0, 1) := by decide +kernel
theorem d_T_recover_37 : decode b_T_recover 37 = .ok (.putfield 30, 3) := by decide +kernel
theorem d_T_recover_40 : decode b_T_recover 40 = .ok (.aload_n 0, 1) := by decide +kernel
theorem d_T_recover_41 : decode b_T_recover 41 = .ok (.getfield 10, 3) := by decide +kernel
theorem d_T_recover_44 : decode b_T_recover 44 = .ok (.getfield 34, 3) := by decide +kernel
theorem d_T_recover_47 : decode b_T_recover 47 = .ok (.ireturn, 1) := by decide +kernel
theorem d_T_writes_0 : decode b_T_writes 0 = .ok (.aload_n 0, 1) := by decide +kernel
theorem d_T_writes_1 : decode b_T_writes 1 = .ok (.getfield 10, 3) := by decide +kernel
theorem d_T_writes_4 : decode b_T_writes 4 = .ok (.getfield 68, 3) := by decide +kernel
theorem d_T_writes_7 : decode b_T_writes 7 = .ok (.ireturn, 1) := by decide +kernel
theorem d_T_length_0 : decode b_T_length 0 = .ok (.aload_n 0, 1) := by decide +kernel
theorem d_T_length_1 : decode b_T_length 1 = .ok (.getfield 10, 3) := by decide +kernel
theorem d_T_length_4 : decode b_T_length 4 = .ok (.getfield 30, 3) := by decide +kernel
theorem d_T_length_7 : decode b_T_length 7 = .ok (.ifCond .eq 8, 3) := by decide +kernel
theorem d_T_length_10 : decode b_T_length 10 = .ok (.bipush (-2), 2) := by decide +kernel
theorem d_T_length_12 : decode b_T_length 12 = .ok (.goto 10, 3) := by decide +kernel
theorem d_T_length_15 : decode b_T_length 15 = .ok (.aload_n 0, 1) := by decide +kernel
theorem d_T_length_16 : decode b_T_length 16 = .ok (.getfield 10, 3) := by decide +kernel
theorem d_T_length_19 : decode b_T_length 19 = .ok (.getfield 34, 3) := by decide +kernel
theorem d_T_length_22 : decode b_T_length 22 = .ok (.ireturn, 1) := by decide +kernel
theorem d_T_size_0 : decode b_T_size 0 = .ok (.aload_n 0, 1) := by decide +kernel
theorem d_T_size_1 : decode b_T_size 1 = .ok (.getfield 10, 3) := by decide +kernel
theorem d_T_size_4 : decode b_T_size 4 = .ok (.iload_n 1, 1) := by decide +kernel
theorem d_T_size_5 : decode b_T_size 5 = .ok (.invokevirtual 71, 3) := by decide +kernel
theorem d_T_size_8 : decode b_T_size 8 = .ok (.ifCond .eq 15, 3) := by decide +kernel
theorem d_T_size_11 : decode b_T_size 11 = .ok (.aload_n 0, 1) := by decide +kernel
theorem d_T_size_12 : decode b_T_size 12 = .ok (.getfield 10, 3) := by decide +kernel
theorem d_T_size_15 : decode b_T_size 15 = .ok (.getfield 74, 3) := by decide +kernel
theorem d_T_size_18 : decode b_T_size 18 = .ok (.iload_n 1, 1) := by decide +kernel
theorem d_T_size_19 : decode b_T_size 19 = .ok (.iaload, 1) := by decide +kernel
theorem d_T_size_20 : decode b_T_size 20 = .ok (.goto 4, 3) := by decide +kernel
theorem d_T_size_23 : decode b_T_size 23 = .ok (.iconst (-1), 1) := by decide +kernel
theorem d_T_size_24 : decode b_T_size 24 = .ok (.ireturn, 1) := by decide +kernel
theorem d_T_root_0 : decode b_T_root 0 = .ok (.aload_n 0, 1) := by decide +kernel
theorem d_T_root_1 : decode b_T_root 1 = .ok (.getfield 10, 3) := by decide +kernel
theorem d_T_root_4 : decode b_T_root 4 = .ok (.iload_n 1, 1) := by decide +kernel
theorem d_T_root_5 : decode b_T_root 5 = .ok (.invokevirtual 71, 3) := by decide +kernel
theorem d_T_root_8 : decode b_T_root 8 = .ok (.ifCond .eq 15, 3) := by decide +kernel
theorem d_T_root_11 : decode b_T_root 11 = .ok (.aload_n 0, 1) := by decide +kernel
theorem d_T_root_12 : decode b_T_root 12 = .ok (.getfield 10, 3) := by decide +kernel
theorem d_T_root_15 : decode b_T_root 15 = .ok (.getfield 78, 3) := by decide +kernel
theorem d_T_root_18 : decode b_T_root 18 = .ok (.iload_n 1, 1) := by decide +kernel
theorem d_T_root_19 : decode b_T_root 19 = .ok (.laload, 1) := by decide +kernel
theorem d_T_root_20 : decode b_T_root 20 = .ok (.goto 4, 3) := by decide +kernel
theorem d_T_root_23 : decode b_T_root 23 = .ok (.lconst 0, 1) := by decide +kernel
theorem d_T_root_24 : decode b_T_root 24 = .ok (.lreturn, 1) := by decide +kernel
theorem d_T_latest_0 : decode b_T_latest 0 = .ok (.aload_n 0, 1) := by decide +kernel
theorem d_T_latest_1 : decode b_T_latest 1 = .ok (.getfield 10, 3) := by decide +kernel
theorem d_T_latest_4 : decode b_T_latest 4 = .ok (.invokevirtual 49, 3) := by decide +kernel
theorem d_T_latest_7 : decode b_T_latest 7 = .ok (.ireturn, 1) := by decide +kernel
theorem d_T_tile_0 : decode b_T_tile 0 = .ok (.iload_n 3, 1) := by decide +kernel
theorem d_T_tile_1 : decode b_T_tile 1 = .ok (.ifCond .lt 9, 3) := by decide +kernel
theorem d_T_tile_4 : decode b_T_tile 4 = .ok (.iload_n 3, 1) := by decide +kernel
theorem d_T_tile_5 : decode b_T_tile 5 = .ok (.bipush 8, 2) := by decide +kernel
theorem d_T_tile_7 : decode b_T_tile 7 = .ok (.if_icmp .lt 5, 3) := by decide +kernel
theorem d_T_tile_10 : decode b_T_tile 10 = .ok (.lconst 0, 1) := by decide +kernel
theorem d_T_tile_11 : decode b_T_tile 11 = .ok (.lreturn, 1) := by decide +kernel
theorem d_T_tile_12 : decode b_T_tile 12 = .ok (.iload_n 1, 1) := by decide +kernel
theorem d_T_tile_13 : decode b_T_tile 13 = .ok (.ifCond .ne 25, 3) := by decide +kernel
theorem d_T_tile_16 : decode b_T_tile 16 = .ok (.iload_n 2, 1) := by decide +kernel
theorem d_T_tile_17 : decode b_T_tile 17 = .ok (.ifCond .lt 21, 3) := by decide +kernel
theorem d_T_tile_20 : decode b_T_tile 20 = .ok (.iload_n 2, 1) := by decide +kernel
theorem d_T_tile_21 : decode b_T_tile 21 = .ok (.bipush 8, 2) := by decide +kernel
theorem d_T_tile_23 : decode b_T_tile 23 = .ok (.if_icmp .ge 15, 3) := by decide +kernel
theorem d_T_tile_26 : decode b_T_tile 26 = .ok (.aload_n 0, 1) := by decide +kernel
theorem d_T_tile_27 : decode b_T_tile 27 = .ok (.getfield 10, 3) := by decide +kernel
theorem d_T_tile_30 : decode b_T_tile 30 = .ok (.getfield 81, 3) := by decide +kernel
theorem d_T_tile_33 : decode b_T_tile 33 = .ok (.iload_n 2, 1) := by decide +kernel
theorem d_T_tile_34 : decode b_T_tile 34 = .ok (.aaload, 1) := by decide +kernel
theorem d_T_tile_35 : decode b_T_tile 35 = .ok (.iload_n 3, 1) := by decide +kernel
theorem d_T_tile_36 : decode b_T_tile 36 = .ok (.laload, 1) := by decide +kernel
theorem d_T_tile_37 : decode b_T_tile 37 = .ok (.lreturn, 1) := by decide +kernel
theorem d_T_tile_38 : decode b_T_tile 38 = .ok (.iload_n 1, 1) := by decide +kernel
theorem d_T_tile_39 : decode b_T_tile 39 = .ok (.iconst 1, 1) := by decide +kernel
theorem d_T_tile_40 : decode b_T_tile 40 = .ok (.if_icmp .ne 22, 3) := by decide +kernel
theorem d_T_tile_43 : decode b_T_tile 43 = .ok (.iload_n 2, 1) := by decide +kernel
theorem d_T_tile_44 : decode b_T_tile 44 = .ok (.ifCond .ne 18, 3) := by decide +kernel
theorem d_T_tile_47 : decode b_T_tile 47 = .ok (.aload_n 0, 1) := by decide +kernel
theorem d_T_tile_48 : decode b_T_tile 48 = .ok (.getfield 10, 3) := by decide +kernel
theorem d_T_tile_51 : decode b_T_tile 51 = .ok (.getfield 81, 3) := by decide +kernel
theorem d_T_tile_54 : decode b_T_tile 54 = .ok (.bipush 8, 2) := by decide +kernel
theorem d_T_tile_56 : decode b_T_tile 56 = .ok (.aaload, 1) := by decide +kernel
theorem d_T_tile_57 : decode b_T_tile 57 = .ok (.iload_n 3, 1) := by decide +kernel
theorem d_T_tile_58 : decode b_T_tile 58 = .ok (.laload, 1) := by decide +kernel
theorem d_T_tile_59 : decode b_T_tile 59 = .ok (.goto 4, 3) := by decide +kernel
theorem d_T_tile_62 : decode b_T_tile 62 = .ok (.lconst 0, 1) := by decide +kernel
theorem d_T_tile_63 : decode b_T_tile 63 = .ok (.lreturn, 1) := by decide +kernel
theorem d_T_entry_0 : decode b_T_entry 0 = .ok (.iload_n 1, 1) := by decide +kernel
theorem d_T_entry_1 : decode b_T_entry 1 = .ok (.ifCond .lt 26, 3) := by decide +kernel
theorem d_T_entry_4 : decode b_T_entry 4 = .ok (.iload_n 1, 1) := by decide +kernel
theorem d_T_entry_5 : decode b_T_entry 5 = .ok (.aload_n 0, 1) := by decide +kernel
theorem d_T_entry_6 : decode b_T_entry 6 = .ok (.getfield 10, 3) := by decide +kernel
theorem d_T_entry_9 : decode b_T_entry 9 = .ok (.getfield 34, 3) := by decide +kernel
theorem d_T_entry_12 : decode b_T_entry 12 = .ok (.if_icmp .ge 15, 3) := by decide +kernel
theorem d_T_entry_15 : decode b_T_entry 15 = .ok (.aload_n 0, 1) := by decide +kernel
theorem d_T_entry_16 : decode b_T_entry 16 = .ok (.getfield 10, 3) := by decide +kernel
theorem d_T_entry_19 : decode b_T_entry 19 = .ok (.getfield 52, 3) := by decide +kernel
theorem d_T_entry_22 : decode b_T_entry 22 = .ok (.iload_n 1, 1) := by decide +kernel
theorem d_T_entry_23 : decode b_T_entry 23 = .ok (.laload, 1) := by decide +kernel
theorem d_T_entry_24 : decode b_T_entry 24 = .ok (.goto 4, 3) := by decide +kernel
theorem d_T_entry_27 : decode b_T_entry 27 = .ok (.lconst 0, 1) := by decide +kernel
theorem d_T_entry_28 : decode b_T_entry 28 = .ok (.lreturn, 1) := by decide +kernel
theorem d_T_find_0 : decode b_T_find 0 = .ok (.aload_n 0, 1) := by decide +kernel
theorem d_T_find_1 : decode b_T_find 1 = .ok (.getfield 10, 3) := by decide +kernel
theorem d_T_find_4 : decode b_T_find 4 = .ok (.getfield 30, 3) := by decide +kernel
theorem d_T_find_7 : decode b_T_find 7 = .ok (.ifCond .eq 6, 3) := by decide +kernel
theorem d_T_find_10 : decode b_T_find 10 = .ok (.bipush (-2), 2) := by decide +kernel
theorem d_T_find_12 : decode b_T_find 12 = .ok (.ireturn, 1) := by decide +kernel
theorem d_T_find_13 : decode b_T_find 13 = .ok (.lload_n 1, 1) := by decide +kernel
theorem d_T_find_14 : decode b_T_find 14 = .ok (.invokestatic 85, 3) := by decide +kernel
theorem d_T_find_17 : decode b_T_find 17 = .ok (.lstore_n 3, 1) := by decide +kernel
theorem d_T_find_18 : decode b_T_find 18 = .ok (.aload_n 0, 1) := by decide +kernel
theorem d_T_find_19 : decode b_T_find 19 = .ok (.getfield 10, 3) := by decide +kernel
theorem d_T_find_22 : decode b_T_find 22 = .ok (.invokevirtual 41, 3) := by decide +kernel
theorem d_T_find_25 : decode b_T_find 25 = .ok (.istore 5, 2) := by decide +kernel
theorem d_T_find_27 : decode b_T_find 27 = .ok (.iconst 0, 1) := by decide +kernel
theorem d_T_find_28 : decode b_T_find 28 = .ok (.istore 6, 2) := by decide +kernel
theorem d_T_find_30 : decode b_T_find 30 = .ok (.iload 6, 2) := by decide +kernel
theorem d_T_find_32 : decode b_T_find 32 = .ok (.iload 5, 2) := by decide +kernel
theorem d_T_find_34 : decode b_T_find 34 = .ok (.if_icmp .ge 30, 3) := by decide +kernel
theorem d_T_find_37 : decode b_T_find 37 = .ok (.aload_n 0, 1) := by decide +kernel
theorem d_T_find_38 : decode b_T_find 38 = .ok (.getfield 10, 3) := by decide +kernel
theorem d_T_find_41 : decode b_T_find 41 = .ok (.getfield 52, 3) := by decide +kernel
theorem d_T_find_44 : decode b_T_find 44 = .ok (.iload 6, 2) := by decide +kernel
theorem d_T_find_46 : decode b_T_find 46 = .ok (.laload, 1) := by decide +kernel
theorem d_T_find_47 : decode b_T_find 47 = .ok (.invokestatic 85, 3) := by decide +kernel
theorem d_T_find_50 : decode b_T_find 50 = .ok (.lload_n 3, 1) := by decide +kernel
theorem d_T_find_51 : decode b_T_find 51 = .ok (.lcmp, 1) := by decide +kernel
theorem d_T_find_52 : decode b_T_find 52 = .ok (.ifCond .ne 6, 3) := by decide +kernel
theorem d_T_find_55 : decode b_T_find 55 = .ok (.iload 6, 2) := by decide +kernel
theorem d_T_find_57 : decode b_T_find 57 = .ok (.ireturn, 1) := by decide +kernel
theorem d_T_find_58 : decode b_T_find 58 = .ok (.iinc 6 1, 3) := by decide +kernel
theorem d_T_find_61 : decode b_T_find 61 = .ok (.goto (-31), 3) := by decide +kernel
theorem d_T_find_64 : decode b_T_find 64 = .ok (.iconst (-1), 1) := by decide +kernel
theorem d_T_find_65 : decode b_T_find 65 = .ok (.ireturn, 1) := by decide +kernel
theorem d_T_rootOf_0 : decode b_T_rootOf 0 = .ok (.iload_n 1, 1) := by decide +kernel
theorem d_T_rootOf_1 : decode b_T_rootOf 1 = .ok (.ifCond .lt 29, 3) := by decide +kernel
theorem d_T_rootOf_4 : decode b_T_rootOf 4 = .ok (.iload_n 1, 1) := by decide +kernel
theorem d_T_rootOf_5 : decode b_T_rootOf 5 = .ok (.aload_n 0, 1) := by decide +kernel
theorem d_T_rootOf_6 : decode b_T_rootOf 6 = .ok (.getfield 10, 3) := by decide +kernel
theorem d_T_rootOf_9 : decode b_T_rootOf 9 = .ok (.getfield 34, 3) := by decide +kernel
theorem d_T_rootOf_12 : decode b_T_rootOf 12 = .ok (.if_icmp .gt 18, 3) := by decide +kernel
theorem d_T_rootOf_15 : decode b_T_rootOf 15 = .ok (.aload_n 0, 1) := by decide +kernel
theorem d_T_rootOf_16 : decode b_T_rootOf 16 = .ok (.getfield 10, 3) := by decide +kernel
theorem d_T_rootOf_19 : decode b_T_rootOf 19 = .ok (.getfield 52, 3) := by decide +kernel
theorem d_T_rootOf_22 : decode b_T_rootOf 22 = .ok (.iconst 0, 1) := by decide +kernel
theorem d_T_rootOf_23 : decode b_T_rootOf 23 = .ok (.iload_n 1, 1) := by decide +kernel
theorem d_T_rootOf_24 : decode b_T_rootOf 24 = .ok (.invokestatic 55, 3) := by decide +kernel
theorem d_T_rootOf_27 : decode b_T_rootOf 27 = .ok (.goto 4, 3) := by decide +kernel
theorem d_T_rootOf_30 : decode b_T_rootOf 30 = .ok (.lconst 0, 1) := by decide +kernel
theorem d_T_rootOf_31 : decode b_T_rootOf 31 = .ok (.lreturn, 1) := by decide +kernel
theorem d_T_include_0 : decode b_T_include 0 = .ok (.aload_n 0, 1) := by decide +kernel
theorem d_T_include_1 : decode b_T_include 1 = .ok (.getfield 10, 3) := by decide +kernel
theorem d_T_include_4 : decode b_T_include 4 = .ok (.getfield 30, 3) := by decide +kernel
theorem d_T_include_7 : decode b_T_include 7 = .ok (.ifCond .eq 6, 3) := by decide +kernel
theorem d_T_include_10 : decode b_T_include 10 = .ok (.bipush (-2), 2) := by decide +kernel
theorem d_T_include_12 : decode b_T_include 12 = .ok (.ireturn, 1) := by decide +kernel
theorem d_T_include_13 : decode b_T_include 13 = .ok (.iload_n 2, 1) := by decide +kernel
theorem d_T_include_14 : decode b_T_include 14 = .ok (.iconst 1, 1) := by decide +kernel
theorem d_T_include_15 : decode b_T_include 15 = .ok (.if_icmp .lt 23, 3) := by decide +kernel
theorem d_T_include_18 : decode b_T_include 18 = .ok (.iload_n 2, 1) := by decide +kernel
theorem d_T_include_19 : decode b_T_include 19 = .ok (.aload_n 0, 1) := by decide +kernel
theorem d_T_include_20 : decode b_T_include 20 = .ok (.getfield 10, 3) := by decide +kernel
theorem d_T_include_23 : decode b_T_include 23 = .ok (.invokevirtual 41, 3) := by decide +kernel
theorem d_T_include_26 : decode b_T_include 26 = .ok (.if_icmp .gt 12, 3) := by decide +kernel
theorem d_T_include_29 : decode b_T_include 29 = .ok (.iload_n 1, 1) := by decide +kernel
theorem d_T_include_30 : decode b_T_include 30 = .ok (.ifCond .lt 8, 3) := by decide +kernel
theorem d_T_include_33 : decode b_T_include 33 = .ok (.iload_n 1, 1) := by decide +kernel
theorem d_T_include_34 : decode b_T_include 34 = .ok (.iload_n 2, 1) := by decide +kernel
theorem d_T_include_35 : decode b_T_include 35 = .ok (.if_icmp .lt 5, 3) := by decide +kernel
theorem d_T_include_38 : decode b_T_include 38 = .ok (.iconst (-1), 1) := by decide +kernel
theorem d_T_include_39 : decode b_T_include 39 = .ok (.ireturn, 1) := by decide +kernel
theorem d_T_include_40 : decode b_T_include 40 = .ok (.aload_n 0, 1) := by decide +kernel
theorem d_T_include_41 : decode b_T_include 41 = .ok (.iconst 0, 1) := by decide +kernel
theorem d_T_include_42 : decode b_T_include 42 = .ok (.putfield 20, 3) := by decide +kernel
theorem d_T_include_45 : decode b_T_include 45 = .ok (.aload_n 0, 1) := by decide +kernel
theorem d_T_include_46 : decode b_T_include 46 = .ok (.iload_n 1, 1) := by decide +kernel
theorem d_T_include_47 : decode b_T_include 47 = .ok (.iconst 0, 1) := by decide +kernel
theorem d_T_include_48 : decode b_T_include 48 = .ok (.iload_n 2, 1) := by decide +kernel
theorem d_T_include_49 : decode b_T_include 49 = .ok (.invokevirtual 89, 3) := by decide +kernel
theorem d_T_include_52 : decode b_T_include 52 = .ok (.aload_n 0, 1) := by decide +kernel
theorem d_T_include_53 : decode b_T_include 53 = .ok (.getfield 20, 3) := by decide +kernel
theorem d_T_include_56 : decode b_T_include 56 = .ok (.ireturn, 1) := by decide +kernel
theorem d_T_extend_0 : decode b_T_extend 0 = .ok (.aload_n 0, 1) := by decide +kernel
theorem d_T_extend_1 : decode b_T_extend 1 = .ok (.getfield 10, 3) := by decide +kernel
theorem d_T_extend_4 : decode b_T_extend 4 = .ok (.getfield 30, 3) := by decide +kernel
theorem d_T_extend_7 : decode b_T_extend 7 = .ok (.ifCond .eq 6, 3) := by decide +kernel
theorem d_T_extend_10 : decode b_T_extend 10 = .ok (.bipush (-2), 2) := by decide +kernel
theorem d_T_extend_12 : decode b_T_extend 12 = .ok (.ireturn, 1) := by decide +kernel
theorem d_T_extend_13 : decode b_T_extend 13 = .ok (.iload_n 2, 1) := by decide +kernel
theorem d_T_extend_14 : decode b_T_extend 14 = .ok (.iconst 1, 1) := by decide +kernel
theorem d_T_extend_15 : decode b_T_extend 15 = .ok (.if_icmp .lt 24, 3) := by decide +kernel
theorem d_T_extend_18 : decode b_T_extend 18 = .ok (.iload_n 2, 1) := by decide +kernel
theorem d_T_extend_19 : decode b_T_extend 19 = .ok (.aload_n 0, 1) := by decide +kernel
theorem d_T_extend_20 : decode b_T_extend 20 = .ok (.getfield 10, 3) := by decide +kernel
theorem d_T_extend_23 : decode b_T_extend 23 = .ok (.invokevirtual 41, 3) := by decide +kernel
theorem d_T_extend_26 : decode b_T_extend 26 = .ok (.if_icmp .gt 13, 3) := by decide +kernel
theorem d_T_extend_29 : decode b_T_extend 29 = .ok (.iload_n 1, 1) := by decide +kernel
theorem d_T_extend_30 : decode b_T_extend 30 = .ok (.iconst 1, 1) := by decide +kernel
theorem d_T_extend_31 : decode b_T_extend 31 = .ok (.if_icmp .lt 8, 3) := by decide +kernel
theorem d_T_extend_34 : decode b_T_extend 34 = .ok (.iload_n 1, 1) := by decide +kernel
theorem d_T_extend_35 : decode b_T_extend 35 = .ok (.iload_n 2, 1) := by decide +kernel
theorem d_T_extend_36 : decode b_T_extend 36 = .ok (.if_icmp .le 5, 3) := by decide +kernel
theorem d_T_extend_39 : decode b_T_extend 39 = .ok (.iconst (-1), 1) := by decide +kernel
theorem d_T_extend_40 : decode b_T_extend 40 = .ok (.ireturn, 1) := by decide +kernel
theorem d_T_extend_41 : decode b_T_extend 41 = .ok (.aload_n 0, 1) := by decide +kernel
theorem d_T_extend_42 : decode b_T_extend 42 = .ok (.iconst 0, 1) := by decide +kernel
theorem d_T_extend_43 : decode b_T_extend 43 = .ok (.putfield 20, 3) := by decide +kernel
theorem d_T_extend_46 : decode b_T_extend 46 = .ok (.aload_n 0, 1) := by decide +kernel
theorem d_T_extend_47 : decode b_T_extend 47 = .ok (.iload_n 1, 1) := by decide +kernel
theorem d_T_extend_48 : decode b_T_extend 48 = .ok (.iconst 0, 1) := by decide +kernel
theorem d_T_extend_49 : decode b_T_extend 49 = .ok (.iload_n 2, 1) := by decide +kernel
theorem d_T_extend_50 : decode b_T_extend 50 = .ok (.iconst 1, 1) := by decide +kernel
theorem d_T_extend_51 : decode b_T_extend 51 = .ok (.invokevirtual 93, 3) := by decide +kernel
theorem d_T_extend_54 : decode b_T_extend 54 = .ok (.aload_n 0, 1) := by decide +kernel
theorem d_T_extend_55 : decode b_T_extend 55 = .ok (.getfield 20, 3) := by decide +kernel
theorem d_T_extend_58 : decode b_T_extend 58 = .ok (.ireturn, 1) := by decide +kernel
theorem d_T_proof_0 : decode b_T_proof 0 = .ok (.iload_n 1, 1) := by decide +kernel
theorem d_T_proof_1 : decode b_T_proof 1 = .ok (.ifCond .lt 20, 3) := by decide +kernel
theorem d_T_proof_4 : decode b_T_proof 4 = .ok (.iload_n 1, 1) := by decide +kernel
theorem d_T_proof_5 : decode b_T_proof 5 = .ok (.aload_n 0, 1) := by decide +kernel
theorem d_T_proof_6 : decode b_T_proof 6 = .ok (.getfield 20, 3) := by decide +kernel
theorem d_T_proof_9 : decode b_T_proof 9 = .ok (.if_icmp .ge 12, 3) := by decide +kernel
theorem d_T_proof_12 : decode b_T_proof 12 = .ok (.aload_n 0, 1) := by decide +kernel
theorem d_T_proof_13 : decode b_T_proof 13 = .ok (.getfield 16, 3) := by decide +kernel
theorem d_T_proof_16 : decode b_T_proof 16 = .ok (.iload_n 1, 1) := by decide +kernel
theorem d_T_proof_17 : decode b_T_proof 17 = .ok (.laload, 1) := by decide +kernel
theorem d_T_proof_18 : decode b_T_proof 18 = .ok (.goto 4, 3) := by decide +kernel
theorem d_T_proof_21 : decode b_T_proof 21 = .ok (.lconst 0, 1) := by decide +kernel
theorem d_T_proof_22 : decode b_T_proof 22 = .ok (.lreturn, 1) := by decide +kernel
theorem d_T_offer_0 : decode b_T_offer 0 = .ok (.iload_n 1, 1) := by decide +kernel
theorem d_T_offer_1 : decode b_T_offer 1 = .ok (.ifCond .lt 9, 3) := by decide +kernel
theorem d_T_offer_4 : decode b_T_offer 4 = .ok (.iload_n 1, 1) := by decide +kernel
theorem d_T_offer_5 : decode b_T_offer 5 = .ok (.bipush 8, 2) := by decide +kernel
theorem d_T_offer_7 : decode b_T_offer 7 = .ok (.if_icmp .lt 5, 3) := by decide +kernel
theorem d_T_offer_10 : decode b_T_offer 10 = .ok (.iconst 0, 1) := by decide +kernel
theorem d_T_offer_11 : decode b_T_offer 11 = .ok (.ireturn, 1) := by decide +kernel
theorem d_T_offer_12 : decode b_T_offer 12 = .ok (.aload_n 0, 1) := by decide +kernel
theorem d_T_offer_13 : decode b_T_offer 13 = .ok (.getfield 24, 3) := by decide +kernel
theorem d_T_offer_16 : decode b_T_offer 16 = .ok (.iload_n 1, 1) := by decide +kernel
theorem d_T_offer_17 : decode b_T_offer 17 = .ok (.lload_n 2, 1) := by decide +kernel
theorem d_T_offer_18 : decode b_T_offer 18 = .ok (.lastore, 1) := by decide +kernel
theorem d_T_offer_19 : decode b_T_offer 19 = .ok (.iconst 1, 1) := by decide +kernel
theorem d_T_offer_20 : decode b_T_offer 20 = .ok (.ireturn, 1) := by decide +kernel
theorem d_T_offers_0 : decode b_T_offers 0 = .ok (.iload_n 1, 1) := by decide +kernel
theorem d_T_offers_1 : decode b_T_offers 1 = .ok (.ifCond .lt 9, 3) := by decide +kernel
theorem d_T_offers_4 : decode b_T_offers 4 = .ok (.iload_n 1, 1) := by decide +kernel
theorem d_T_offers_5 : decode b_T_offers 5 = .ok (.bipush 8, 2) := by decide +kernel
theorem d_T_offers_7 : decode b_T_offers 7 = .ok (.if_icmp .le 5, 3) := by decide +kernel
theorem d_T_offers_10 : decode b_T_offers 10 = .ok (.iconst 0, 1) := by decide +kernel
theorem d_T_offers_11 : decode b_T_offers 11 = .ok (.ireturn, 1) := by decide +kernel
theorem d_T_offers_12 : decode b_T_offers 12 = .ok (.aload_n 0, 1) := by decide +kernel
theorem d_T_offers_13 : decode b_T_offers 13 = .ok (.iload_n 1, 1) := by decide +kernel
theorem d_T_offers_14 : decode b_T_offers 14 = .ok (.putfield 27, 3) := by decide +kernel
theorem d_T_offers_17 : decode b_T_offers 17 = .ok (.iconst 1, 1) := by decide +kernel
theorem d_T_offers_18 : decode b_T_offers 18 = .ok (.ireturn, 1) := by decide +kernel
theorem d_T_shows_0 : decode b_T_shows 0 = .ok (.iload 4, 2) := by decide +kernel
theorem d_T_shows_2 : decode b_T_shows 2 = .ok (.iconst 1, 1) := by decide +kernel
theorem d_T_shows_3 : decode b_T_shows 3 = .ok (.if_icmp .lt 20, 3) := by decide +kernel
theorem d_T_shows_6 : decode b_T_shows 6 = .ok (.iload 4, 2) := by decide +kernel
theorem d_T_shows_8 : decode b_T_shows 8 = .ok (.ldc 97, 2) := by decide +kernel
theorem d_T_shows_10 : decode b_T_shows 10 = .ok (.if_icmp .gt 13, 3) := by decide +kernel
theorem d_T_shows_13 : decode b_T_shows 13 = .ok (.iload_n 3, 1) := by decide +kernel
theorem d_T_shows_14 : decode b_T_shows 14 = .ok (.ifCond .lt 9, 3) := by decide +kernel
theorem d_T_shows_17 : decode b_T_shows 17 = .ok (.iload_n 3, 1) := by decide +kernel
theorem d_T_shows_18 : decode b_T_shows 18 = .ok (.iload 4, 2) := by decide +kernel
theorem d_T_shows_20 : decode b_T_shows 20 = .ok (.if_icmp .lt 5, 3) := by decide +kernel
theorem d_T_shows_23 : decode b_T_shows 23 = .ok (.iconst 0, 1) := by decide +kernel
theorem d_T_shows_24 : decode b_T_shows 24 = .ok (.ireturn, 1) := by decide +kernel
theorem d_T_shows_25 : decode b_T_shows 25 = .ok (.iload_n 3, 1) := by decide +kernel
theorem d_T_shows_26 : decode b_T_shows 26 = .ok (.istore 7, 2) := by decide +kernel
theorem d_T_shows_28 : decode b_T_shows 28 = .ok (.iload 4, 2) := by decide +kernel
theorem d_T_shows_30 : decode b_T_shows 30 = .ok (.iconst 1, 1) := by decide +kernel
theorem d_T_shows_31 : decode b_T_shows 31 = .ok (.isub, 1) := by decide +kernel
theorem d_T_shows_32 : decode b_T_shows 32 = .ok (.istore 8, 2) := by decide +kernel
theorem d_T_shows_34 : decode b_T_shows 34 = .ok (.lload_n 1, 1) := by decide +kernel
theorem d_T_shows_35 : decode b_T_shows 35 = .ok (.invokestatic 85, 3) := by decide +kernel
theorem d_T_shows_38 : decode b_T_shows 38 = .ok (.lstore 9, 2) := by decide +kernel
theorem d_T_shows_40 : decode b_T_shows 40 = .ok (.iconst 0, 1) := by decide +kernel
theorem d_T_shows_41 : decode b_T_shows 41 = .ok (.istore 11, 2) := by decide +kernel
theorem d_T_shows_43 : decode b_T_shows 43 = .ok (.iload 11, 2) := by decide +kernel
theorem d_T_shows_45 : decode b_T_shows 45 = .ok (.aload_n 0, 1) := by decide +kernel
theorem d_T_shows_46 : decode b_T_shows 46 = .ok (.getfield 27, 3) := by decide +kernel
theorem d_T_shows_49 : decode b_T_shows 49 = .ok (.if_icmp .ge 81, 3) := by decide +kernel
theorem d_T_shows_52 : decode b_T_shows 52 = .ok (.iload 8, 2) := by decide +kernel
theorem d_T_shows_54 : decode b_T_shows 54 = .ok (.ifCond .ne 5, 3) := by decide +kernel
theorem d_T_shows_57 : decode b_T_shows 57 = .ok (.iconst 0, 1) := by decide +kernel
theorem d_T_shows_58 : decode b_T_shows 58 = .ok (.ireturn, 1) := by decide +kernel
theorem d_T_shows_59 : decode b_T_shows 59 = .ok (.aload_n 0, 1) := by decide +kernel
theorem d_T_shows_60 : decode b_T_shows 60 = .ok (.getfield 24, 3) := by decide +kernel
theorem d_T_shows_63 : decode b_T_shows 63 = .ok (.iload 11, 2) := by decide +kernel
theorem d_T_shows_65 : decode b_T_shows 65 = .ok (.laload, 1) := by decide +kernel
theorem d_T_shows_66 : decode b_T_shows 66 = .ok (.lstore 12, 2) := by decide +kernel
theorem d_T_shows_68 : decode b_T_shows 68 = .ok (.iload 7, 2) := by decide +kernel
theorem d_T_shows_70 : decode b_T_shows 70 = .ok (.iload 8, 2) := by decide +kernel
theorem d_T_shows_72 : decode b_T_shows 72 = .ok (.invokestatic 98, 3) := by decide +kernel
theorem d_T_shows_75 : decode b_T_shows 75 = .ok (.istore 14, 2) := by decide +kernel
theorem d_T_shows_77 : decode b_T_shows 77 = .ok (.iload 14, 2) := by decide +kernel
theorem d_T_shows_79 : decode b_T_shows 79 = .ok (.ifCond .eq 13, 3) := by decide +kernel
theorem d_T_shows_82 : decode b_T_shows 82 = .ok (.lload 12, 2) := by decide +kernel
theorem d_T_shows_84 : decode b_T_shows 84 = .ok (.lload 9, 2) := by decide +kernel
theorem d_T_shows_86 : decode b_T_shows 86 = .ok (.invokestatic 102, 3) := by decide +kernel
theorem d_T_shows_89 : decode b_T_shows 89 = .ok (.goto 10, 3) := by decide +kernel
theorem d_T_shows_92 : decode b_T_shows 92 = .ok (.lload 9, 2) := by decide +kernel
theorem d_T_shows_94 : decode b_T_shows 94 = .ok (.lload 12, 2) := by decide +kernel
theorem d_T_shows_96 : decode b_T_shows 96 = .ok (.invokestatic 102, 3) := by decide +kernel
theorem d_T_shows_99 : decode b_T_shows 99 = .ok (.lstore 9, 2) := by decide +kernel
theorem d_T_shows_101 : decode b_T_shows 101 = .ok (.iload 7, 2) := by decide +kernel
theorem d_T_shows_103 : decode b_T_shows 103 = .ok (.iload 14, 2) := by decide +kernel
theorem d_T_shows_105 : decode b_T_shows 105 = .ok (.invokestatic 106, 3) := by decide +kernel
theorem d_T_shows_108 : decode b_T_shows 108 = .ok (.istore 15, 2) := by decide +kernel
theorem d_T_shows_110 : decode b_T_shows 110 = .ok (.iload 7, 2) := by decide +kernel
theorem d_T_shows_112 : decode b_T_shows 112 = .ok (.iload 15, 2) := by decide +kernel
theorem d_T_shows_114 : decode b_T_shows 114 = .ok (.ishr, 1) := by decide +kernel
theorem d_T_shows_115 : decode b_T_shows 115 = .ok (.istore 7, 2) := by decide +kernel
theorem d_T_shows_117 : decode b_T_shows 117 = .ok (.iload 8, 2) := by decide +kernel
theorem d_T_shows_119 : decode b_T_shows 119 = .ok (.iload 15, 2) := by decide +kernel
theorem d_T_shows_121 : decode b_T_shows 121 = .ok (.ishr, 1) := by decide +kernel
theorem d_T_shows_122 : decode b_T_shows 122 = .ok (.istore 8, 2) := by decide +kernel
theorem d_T_shows_124 : decode b_T_shows 124 = .ok (.iinc 11 1, 3) := by decide +kernel
theorem d_T_shows_127 : decode b_T_shows 127 = .ok (.goto (-84), 3) := by decide +kernel
theorem d_T_shows_130 : decode b_T_shows 130 = .ok (.iload 8, 2) := by decide +kernel
theorem d_T_shows_132 : decode b_T_shows 132 = .ok (.ifCond .ne 15, 3) := by decide +kernel
theorem d_T_shows_135 : decode b_T_shows 135 = .ok (.lload 9, 2) := by decide +kernel
theorem d_T_shows_137 : decode b_T_shows 137 = .ok (.lload 5, 2) := by decide +kernel
theorem d_T_shows_139 : decode b_T_shows 139 = .ok (.lcmp, 1) := by decide +kernel
theorem d_T_shows_140 : decode b_T_shows 140 = .ok (.ifCond .ne 7, 3) := by decide +kernel
theorem d_T_shows_143 : decode b_T_shows 143 = .ok (.iconst 1, 1) := by decide +kernel
theorem d_T_shows_144 : decode b_T_shows 144 = .ok (.goto 4, 3) := by decide +kernel
theorem d_T_shows_147 : decode b_T_shows 147 = .ok (.iconst 0, 1) := by decide +kernel
theorem d_T_shows_148 : decode b_T_shows 148 = .ok (.ireturn, 1) := by decide +kernel
theorem d_T_leads_0 : decode b_T_leads 0 = .ok (.iload_n 2, 1) := by decide +kernel
theorem d_T_leads_1 : decode b_T_leads 1 = .ok (.iconst 1, 1) := by decide +kernel
theorem d_T_leads_2 : decode b_T_leads 2 = .ok (.if_icmp .lt 19, 3) := by decide +kernel
theorem d_T_leads_5 : decode b_T_leads 5 = .ok (.iload_n 2, 1) := by decide +kernel
theorem d_T_leads_6 : decode b_T_leads 6 = .ok (.ldc 97, 2) := by decide +kernel
theorem d_T_leads_8 : decode b_T_leads 8 = .ok (.if_icmp .gt 13, 3) := by decide +kernel
theorem d_T_leads_11 : decode b_T_leads 11 = .ok (.iload_n 1, 1) := by decide +kernel
theorem d_T_leads_12 : decode b_T_leads 12 = .ok (.iconst 1, 1) := by decide +kernel
theorem d_T_leads_13 : decode b_T_leads 13 = .ok (.if_icmp .lt 8, 3) := by decide +kernel
theorem d_T_leads_16 : decode b_T_leads 16 = .ok (.iload_n 1, 1) := by decide +kernel
theorem d_T_leads_17 : decode b_T_leads 17 = .ok (.iload_n 2, 1) := by decide +kernel
theorem d_T_leads_18 : decode b_T_leads 18 = .ok (.if_icmp .le 5, 3) := by decide +kernel
theorem d_T_leads_21 : decode b_T_leads 21 = .ok (.iconst 0, 1) := by decide +kernel
theorem d_T_leads_22 : decode b_T_leads 22 = .ok (.ireturn, 1) := by decide +kernel
theorem d_T_leads_23 : decode b_T_leads 23 = .ok (.iload_n 1, 1) := by decide +kernel
theorem d_T_leads_24 : decode b_T_leads 24 = .ok (.iload_n 2, 1) := by decide +kernel
theorem d_T_leads_25 : decode b_T_leads 25 = .ok (.if_icmp .ne 23, 3) := by decide +kernel
theorem d_T_leads_28 : decode b_T_leads 28 = .ok (.aload_n 0, 1) := by decide +kernel
theorem d_T_leads_29 : decode b_T_leads 29 = .ok (.getfield 27, 3) := by decide +kernel
theorem d_T_leads_32 : decode b_T_leads 32 = .ok (.ifCond .ne 14, 3) := by decide +kernel
theorem d_T_leads_35 : decode b_T_leads 35 = .ok (.lload_n 3, 1) := by decide +kernel
theorem d_T_leads_36 : decode b_T_leads 36 = .ok (.lload 5, 2) := by decide +kernel
theorem d_T_leads_38 : decode b_T_leads 38 = .ok (.lcmp, 1) := by decide +kernel
theorem d_T_leads_39 : decode b_T_leads 39 = .ok (.ifCond .ne 7, 3) := by decide +kernel
theorem d_T_leads_42 : decode b_T_leads 42 = .ok (.iconst 1, 1) := by decide +kernel
theorem d_T_leads_43 : decode b_T_leads 43 = .ok (.goto 4, 3) := by decide +kernel
theorem d_T_leads_46 : decode b_T_leads 46 = .ok (.iconst 0, 1) := by decide +kernel
theorem d_T_leads_47 : decode b_T_leads 47 = .ok (.ireturn, 1) := by decide +kernel
theorem d_T_leads_48 : decode b_T_leads 48 = .ok (.iload_n 1, 1) := by decide +kernel
theorem d_T_leads_49 : decode b_T_leads 49 = .ok (.invokestatic 110, 3) := by decide +kernel
theorem d_T_leads_52 : decode b_T_leads 52 = .ok (.istore 7, 2) := by decide +kernel
theorem d_T_leads_54 : decode b_T_leads 54 = .ok (.iload 7, 2) := by decide +kernel
theorem d_T_leads_56 : decode b_T_leads 56 = .ok (.ifCond .ne 12, 3) := by decide +kernel
theorem d_T_leads_59 : decode b_T_leads 59 = .ok (.aload_n 0, 1) := by decide +kernel
theorem d_T_leads_60 : decode b_T_leads 60 = .ok (.getfield 27, 3) := by decide +kernel
theorem d_T_leads_63 : decode b_T_leads 63 = .ok (.ifCond .ne 5, 3) := by decide +kernel
theorem d_T_leads_66 : decode b_T_leads 66 = .ok (.iconst 0, 1) := by decide +kernel
theorem d_T_leads_67 : decode b_T_leads 67 = .ok (.ireturn, 1) := by decide +kernel
theorem d_T_leads_68 : decode b_T_leads 68 = .ok (.aload_n 0, 1) := by decide +kernel
theorem d_T_leads_69 : decode b_T_leads 69 = .ok (.iload_n 1, 1) := by decide +kernel
theorem d_T_leads_70 : decode b_T_leads 70 = .ok (.iload_n 2, 1) := by decide +kernel
theorem d_T_leads_71 : decode b_T_leads 71 = .ok (.lload_n 3, 1) := by decide +kernel
theorem d_T_leads_72 : decode b_T_leads 72 = .ok (.lload 5, 2) := by decide +kernel
theorem d_T_leads_74 : decode b_T_leads 74 = .ok (.iload 7, 2) := by decide +kernel
theorem d_T_leads_76 : decode b_T_leads 76 = .ok (.invokevirtual 113, 3) := by decide +kernel
theorem d_T_leads_79 : decode b_T_leads 79 = .ok (.ireturn, 1) := by decide +kernel
theorem d_T_leadsBehind_0 : decode b_T_leadsBehind 0 = .ok (.iload_n 1, 1) := by decide +kernel
theorem d_T_leadsBehind_1 : decode b_T_leadsBehind 1 = .ok (.invokestatic 117, 3) := by decide +kernel
theorem d_T_leadsBehind_4 : decode b_T_leadsBehind 4 = .ok (.istore 8, 2) := by decide +kernel
theorem d_T_leadsBehind_6 : decode b_T_leadsBehind 6 = .ok (.iload_n 1, 1) := by decide +kernel
theorem d_T_leadsBehind_7 : decode b_T_leadsBehind 7 = .ok (.iconst 1, 1) := by decide +kernel
theorem d_T_leadsBehind_8 : decode b_T_leadsBehind 8 = .ok (.isub, 1) := by decide +kernel
theorem d_T_leadsBehind_9 : decode b_T_leadsBehind 9 = .ok (.iload 8, 2) := by decide +kernel
theorem d_T_leadsBehind_11 : decode b_T_leadsBehind 11 = .ok (.ishr, 1) := by decide +kernel
theorem d_T_leadsBehind_12 : decode b_T_leadsBehind 12 = .ok (.istore 9, 2) := by decide +kernel
theorem d_T_leadsBehind_14 : decode b_T_leadsBehind 14 = .ok (.iload_n 2, 1) := by decide +kernel
theorem d_T_leadsBehind_15 : decode b_T_leadsBehind 15 = .ok (.iconst 1, 1) := by decide +kernel
theorem d_T_leadsBehind_16 : decode b_T_leadsBehind 16 = .ok (.isub, 1) := by decide +kernel
theorem d_T_leadsBehind_17 : decode b_T_leadsBehind 17 = .ok (.iload 8, 2) := by decide +kernel
theorem d_T_leadsBehind_19 : decode b_T_leadsBehind 19 = .ok (.ishr, 1) := by decide +kernel
theorem d_T_leadsBehind_20 : decode b_T_leadsBehind 20 = .ok (.istore 10, 2) := by decide +kernel
theorem d_T_leadsBehind_22 : decode b_T_leadsBehind 22 = .ok (.iload 7, 2) := by decide +kernel
theorem d_T_leadsBehind_24 : decode b_T_leadsBehind 24 = .ok (.ifCond .eq 7, 3) := by decide +kernel
theorem d_T_leadsBehind_27 : decode b_T_leadsBehind 27 = .ok (.lload_n 3, 1) := by decide +kernel
theorem d_T_leadsBehind_28 : decode b_T_leadsBehind 28 = .ok (.goto 9, 3) := by decide +kernel
theorem d_T_leadsBehind_31 : decode b_T_leadsBehind 31 = .ok (.aload_n 0, 1) := by decide +kernel
theorem d_T_leadsBehind_32 : decode b_T_leadsBehind 32 = .ok (.getfield 24, 3) := by decide +kernel
theorem d_T_leadsBehind_35 : decode b_T_leadsBehind 35 = .ok (.iconst 0, 1) := by decide +kernel
theorem d_T_leadsBehind_36 : decode b_T_leadsBehind 36 = .ok (.laload, 1) := by decide +kernel
theorem d_T_leadsBehind_37 : decode b_T_leadsBehind 37 = .ok (.lstore 11, 2) := by decide +kernel
theorem d_T_leadsBehind_39 : decode b_T_leadsBehind 39 = .ok (.lload 11, 2) := by decide +kernel
theorem d_T_leadsBehind_41 : decode b_T_leadsBehind 41 = .ok (.lstore 13, 2) := by decide +kernel
theorem d_T_leadsBehind_43 : decode b_T_leadsBehind 43 = .ok (.iload 7, 2) := by decide +kernel
theorem d_T_leadsBehind_45 : decode b_T_leadsBehind 45 = .ok (.ifCond .eq 7, 3) := by decide +kernel
theorem d_T_leadsBehind_48 : decode b_T_leadsBehind 48 = .ok (.iconst 0, 1) := by decide +kernel
theorem d_T_leadsBehind_49 : decode b_T_leadsBehind 49 = .ok (.goto 4, 3) := by decide +kernel
theorem d_T_leadsBehind_52 : decode b_T_leadsBehind 52 = .ok (.iconst 1, 1) := by decide +kernel
theorem d_T_leadsBehind_53 : decode b_T_leadsBehind 53 = .ok (.istore 15, 2) := by decide +kernel
theorem d_T_leadsBehind_55 : decode b_T_leadsBehind 55 = .ok (.iload 15, 2) := by decide +kernel
theorem d_T_leadsBehind_57 : decode b_T_leadsBehind 57 = .ok (.aload_n 0, 1) := by decide +kernel
theorem d_T_leadsBehind_58 : decode b_T_leadsBehind 58 = .ok (.getfield 27, 3) := by decide +kernel
theorem d_T_leadsBehind_61 : decode b_T_leadsBehind 61 = .ok (.if_icmp .ge 95, 3) := by decide +kernel
theorem d_T_leadsBehind_64 : decode b_T_leadsBehind 64 = .ok (.iload 10, 2) := by decide +kernel
theorem d_T_leadsBehind_66 : decode b_T_leadsBehind 66 = .ok (.ifCond .ne 5, 3) := by decide +kernel
theorem d_T_leadsBehind_69 : decode b_T_leadsBehind 69 = .ok (.iconst 0, 1) := by decide +kernel
theorem d_T_leadsBehind_70 : decode b_T_leadsBehind 70 = .ok (.ireturn, 1) := by decide +kernel
theorem d_T_leadsBehind_71 : decode b_T_leadsBehind 71 = .ok (.aload_n 0, 1) := by decide +kernel
theorem d_T_leadsBehind_72 : decode b_T_leadsBehind 72 = .ok (.getfield 24, 3) := by decide +kernel
theorem d_T_leadsBehind_75 : decode b_T_leadsBehind 75 = .ok (.iload 15, 2) := by decide +kernel
theorem d_T_leadsBehind_77 : decode b_T_leadsBehind 77 = .ok (.laload, 1) := by decide +kernel
theorem d_T_leadsBehind_78 : decode b_T_leadsBehind 78 = .ok (.lstore 16, 2) := by decide +kernel
theorem d_T_leadsBehind_80 : decode b_T_leadsBehind 80 = .ok (.iload 9, 2) := by decide +kernel
theorem d_T_leadsBehind_82 : decode b_T_leadsBehind 82 = .ok (.iload 10, 2) := by decide +kernel
theorem d_T_leadsBehind_84 : decode b_T_leadsBehind 84 = .ok (.invokestatic 98, 3) := by decide +kernel
theorem d_T_leadsBehind_87 : decode b_T_leadsBehind 87 = .ok (.istore 18, 2) := by decide +kernel
theorem d_T_leadsBehind_89 : decode b_T_leadsBehind 89 = .ok (.iload 18, 2) := by decide +kernel
theorem d_T_leadsBehind_91 : decode b_T_leadsBehind 91 = .ok (.ifCond .eq 12, 3) := by decide +kernel
theorem d_T_leadsBehind_94 : decode b_T_leadsBehind 94 = .ok (.lload 16, 2) := by decide +kernel
theorem d_T_leadsBehind_96 : decode b_T_leadsBehind 96 = .ok (.lload 11, 2) := by decide +kernel
theorem d_T_leadsBehind_98 : decode b_T_leadsBehind 98 = .ok (.invokestatic 102, 3) := by decide +kernel
theorem d_T_leadsBehind_101 : decode b_T_leadsBehind 101 = .ok (.lstore 11, 2) := by decide +kernel
theorem d_T_leadsBehind_103 : decode b_T_leadsBehind 103 = .ok (.iload 18, 2) := by decide +kernel
theorem d_T_leadsBehind_105 : decode b_T_leadsBehind 105 = .ok (.ifCond .eq 13, 3) := by decide +kernel
theorem d_T_leadsBehind_108 : decode b_T_leadsBehind 108 = .ok (.lload 16, 2) := by decide +kernel
theorem d_T_leadsBehind_110 : decode b_T_leadsBehind 110 = .ok (.lload 13, 2) := by decide +kernel
theorem d_T_leadsBehind_112 : decode b_T_leadsBehind 112 = .ok (.invokestatic 102, 3) := by decide +kernel
theorem d_T_leadsBehind_115 : decode b_T_leadsBehind 115 = .ok (.goto 10, 3) := by decide +kernel
theorem d_T_leadsBehind_118 : decode b_T_leadsBehind 118 = .ok (.lload 13, 2) := by decide +kernel
theorem d_T_leadsBehind_120 : decode b_T_leadsBehind 120 = .ok (.lload 16, 2) := by decide +kernel
theorem d_T_leadsBehind_122 : decode b_T_leadsBehind 122 = .ok (.invokestatic 102, 3) := by decide +kernel
theorem d_T_leadsBehind_125 : decode b_T_leadsBehind 125 = .ok (.lstore 13, 2) := by decide +kernel
theorem d_T_leadsBehind_127 : decode b_T_leadsBehind 127 = .ok (.iload 9, 2) := by decide +kernel
theorem d_T_leadsBehind_129 : decode b_T_leadsBehind 129 = .ok (.iload 18, 2) := by decide +kernel
theorem d_T_leadsBehind_131 : decode b_T_leadsBehind 131 = .ok (.invokestatic 106, 3) := by decide +kernel
theorem d_T_leadsBehind_134 : decode b_T_leadsBehind 134 = .ok (.istore 19, 2) := by decide +kernel
theorem d_T_leadsBehind_136 : decode b_T_leadsBehind 136 = .ok (.iload 9, 2) := by decide +kernel
theorem d_T_leadsBehind_138 : decode b_T_leadsBehind 138 = .ok (.iload 19, 2) := by decide +kernel
theorem d_T_leadsBehind_140 : decode b_T_leadsBehind 140 = .ok (.ishr, 1) := by decide +kernel
theorem d_T_leadsBehind_141 : decode b_T_leadsBehind 141 = .ok (.istore 9, 2) := by decide +kernel
theorem d_T_leadsBehind_143 : decode b_T_leadsBehind 143 = .ok (.iload 10, 2) := by decide +kernel
theorem d_T_leadsBehind_145 : decode b_T_leadsBehind 145 = .ok (.iload 19, 2) := by decide +kernel
theorem d_T_leadsBehind_147 : decode b_T_leadsBehind 147 = .ok (.ishr, 1) := by decide +kernel
theorem d_T_leadsBehind_148 : decode b_T_leadsBehind 148 = .ok (.istore 10, 2) := by decide +kernel
theorem d_T_leadsBehind_150 : decode b_T_leadsBehind 150 = .ok (.iinc 15 1, 3) := by decide +kernel
theorem d_T_leadsBehind_153 : decode b_T_leadsBehind 153 = .ok (.goto (-98), 3) := by decide +kernel
theorem d_T_leadsBehind_156 : decode b_T_leadsBehind 156 = .ok (.iload 10, 2) := by decide +kernel
theorem d_T_leadsBehind_158 : decode b_T_leadsBehind 158 = .ok (.ifCond .ne 22, 3) := by decide +kernel
theorem d_T_leadsBehind_161 : decode b_T_leadsBehind 161 = .ok (.lload 11, 2) := by decide +kernel
theorem d_T_leadsBehind_163 : decode b_T_leadsBehind 163 = .ok (.lload_n 3, 1) := by decide +kernel
theorem d_T_leadsBehind_164 : decode b_T_leadsBehind 164 = .ok (.lcmp, 1) := by decide +kernel
theorem d_T_leadsBehind_165 : decode b_T_leadsBehind 165 = .ok (.ifCond .ne 15, 3) := by decide +kernel
theorem d_T_leadsBehind_168 : decode b_T_leadsBehind 168 = .ok (.lload 13, 2) := by decide +kernel
theorem d_T_leadsBehind_170 : decode b_T_leadsBehind 170 = .ok (.lload 5, 2) := by decide +kernel
theorem d_T_leadsBehind_172 : decode b_T_leadsBehind 172 = .ok (.lcmp, 1) := by decide +kernel
theorem d_T_leadsBehind_173 : decode b_T_leadsBehind 173 = .ok (.ifCond .ne 7, 3) := by decide +kernel
theorem d_T_leadsBehind_176 : decode b_T_leadsBehind 176 = .ok (.iconst 1, 1) := by decide +kernel
theorem d_T_leadsBehind_177 : decode b_T_leadsBehind 177 = .ok (.goto 4, 3) := by decide +kernel
theorem d_T_leadsBehind_180 : decode b_T_leadsBehind 180 = .ok (.iconst 0, 1) := by decide +kernel
theorem d_T_leadsBehind_181 : decode b_T_leadsBehind 181 = .ok (.ireturn, 1) := by decide +kernel
theorem d_T_standsLeft_0 : decode b_T_standsLeft 0 = .ok (.iload_n 0, 1) := by decide +kernel
theorem d_T_standsLeft_1 : decode b_T_standsLeft 1 = .ok (.iconst 1, 1) := by decide +kernel
theorem d_T_standsLeft_2 : decode b_T_standsLeft 2 = .ok (.iand, 1) := by decide +kernel
theorem d_T_standsLeft_3 : decode b_T_standsLeft 3 = .ok (.iconst 1, 1) := by decide +kernel
theorem d_T_standsLeft_4 : decode b_T_standsLeft 4 = .ok (.if_icmp .eq 8, 3) := by decide +kernel
theorem d_T_standsLeft_7 : decode b_T_standsLeft 7 = .ok (.iload_n 0, 1) := by decide +kernel
theorem d_T_standsLeft_8 : decode b_T_standsLeft 8 = .ok (.iload_n 1, 1) := by decide +kernel
theorem d_T_standsLeft_9 : decode b_T_standsLeft 9 = .ok (.if_icmp .ne 7, 3) := by decide +kernel
theorem d_T_standsLeft_12 : decode b_T_standsLeft 12 = .ok (.iconst 1, 1) := by decide +kernel
theorem d_T_standsLeft_13 : decode b_T_standsLeft 13 = .ok (.goto 4, 3) := by decide +kernel
theorem d_T_standsLeft_16 : decode b_T_standsLeft 16 = .ok (.iconst 0, 1) := by decide +kernel
theorem d_T_standsLeft_17 : decode b_T_standsLeft 17 = .ok (.ireturn, 1) := by decide +kernel
theorem d_T_levelsClimbed_0 : decode b_T_levelsClimbed 0 = .ok (.iload_n 1, 1) := by decide +kernel
theorem d_T_levelsClimbed_1 : decode b_T_levelsClimbed 1 = .ok (.ifCond .eq 12, 3) := by decide +kernel
theorem d_T_levelsClimbed_4 : decode b_T_levelsClimbed 4 = .ok (.iload_n 0, 1) := by decide +kernel
theorem d_T_levelsClimbed_5 : decode b_T_levelsClimbed 5 = .ok (.invokestatic 117, 3) := by decide +kernel
theorem d_T_levelsClimbed_8 : decode b_T_levelsClimbed 8 = .ok (.iconst 1, 1) := by decide +kernel
theorem d_T_levelsClimbed_9 : decode b_T_levelsClimbed 9 = .ok (.iadd, 1) := by decide +kernel
theorem d_T_levelsClimbed_10 : decode b_T_levelsClimbed 10 = .ok (.goto 4, 3) := by decide +kernel
theorem d_T_levelsClimbed_13 : decode b_T_levelsClimbed 13 = .ok (.iconst 1, 1) := by decide +kernel
theorem d_T_levelsClimbed_14 : decode b_T_levelsClimbed 14 = .ok (.ireturn, 1) := by decide +kernel
theorem d_T_zerosAtEnd_0 : decode b_T_zerosAtEnd 0 = .ok (.iconst 0, 1) := by decide +kernel
theorem d_T_zerosAtEnd_1 : decode b_T_zerosAtEnd 1 = .ok (.istore_n 1, 1) := by decide +kernel
theorem d_T_zerosAtEnd_2 : decode b_T_zerosAtEnd 2 = .ok (.iload_n 0, 1) := by decide +kernel
theorem d_T_zerosAtEnd_3 : decode b_T_zerosAtEnd 3 = .ok (.ifCond .eq 23, 3) := by decide +kernel
theorem d_T_zerosAtEnd_6 : decode b_T_zerosAtEnd 6 = .ok (.iload_n 1, 1) := by decide +kernel
theorem d_T_zerosAtEnd_7 : decode b_T_zerosAtEnd 7 = .ok (.bipush 31, 2) := by decide +kernel
theorem d_T_zerosAtEnd_9 : decode b_T_zerosAtEnd 9 = .ok (.if_icmp .ge 17, 3) := by decide +kernel
theorem d_T_zerosAtEnd_12 : decode b_T_zerosAtEnd 12 = .ok (.iload_n 0, 1) := by decide +kernel
theorem d_T_zerosAtEnd_13 : decode b_T_zerosAtEnd 13 = .ok (.iload_n 1, 1) := by decide +kernel
theorem d_T_zerosAtEnd_14 : decode b_T_zerosAtEnd 14 = .ok (.ishr, 1) := by decide +kernel
theorem d_T_zerosAtEnd_15 : decode b_T_zerosAtEnd 15 = .ok (.iconst 1, 1) := by decide +kernel
theorem d_T_zerosAtEnd_16 : decode b_T_zerosAtEnd 16 = .ok (.iand, 1) := by decide +kernel
theorem d_T_zerosAtEnd_17 : decode b_T_zerosAtEnd 17 = .ok (.ifCond .ne 9, 3) := by decide +kernel
theorem d_T_zerosAtEnd_20 : decode b_T_zerosAtEnd 20 = .ok (.iinc 1 1, 3) := by decide +kernel
theorem d_T_zerosAtEnd_23 : decode b_T_zerosAtEnd 23 = .ok (.goto (-17), 3) := by decide +kernel
theorem d_T_zerosAtEnd_26 : decode b_T_zerosAtEnd 26 = .ok (.iload_n 1, 1) := by decide +kernel
theorem d_T_zerosAtEnd_27 : decode b_T_zerosAtEnd 27 = .ok (.ireturn, 1) := by decide +kernel
theorem d_T_isPowerOfTwo_0 : decode b_T_isPowerOfTwo 0 = .ok (.iload_n 0, 1) := by decide +kernel
theorem d_T_isPowerOfTwo_1 : decode b_T_isPowerOfTwo 1 = .ok (.iload_n 0, 1) := by decide +kernel
theorem d_T_isPowerOfTwo_2 : decode b_T_isPowerOfTwo 2 = .ok (.iconst 1, 1) := by decide +kernel
theorem d_T_isPowerOfTwo_3 : decode b_T_isPowerOfTwo 3 = .ok (.isub, 1) := by decide +kernel
theorem d_T_isPowerOfTwo_4 : decode b_T_isPowerOfTwo 4 = .ok (.iand, 1) := by decide +kernel
theorem d_T_isPowerOfTwo_5 : decode b_T_isPowerOfTwo 5 = .ok (.ifCond .ne 7, 3) := by decide +kernel
theorem d_T_isPowerOfTwo_8 : decode b_T_isPowerOfTwo 8 = .ok (.iconst 1, 1) := by decide +kernel
theorem d_T_isPowerOfTwo_9 : decode b_T_isPowerOfTwo 9 = .ok (.goto 4, 3) := by decide +kernel
theorem d_T_isPowerOfTwo_12 : decode b_T_isPowerOfTwo 12 = .ok (.iconst 0, 1) := by decide +kernel
theorem d_T_isPowerOfTwo_13 : decode b_T_isPowerOfTwo 13 = .ok (.ireturn, 1) := by decide +kernel
theorem d_T_addPath_0 : decode b_T_addPath 0 = .ok (.iload_n 3, 1) := by decide +kernel
theorem d_T_addPath_1 : decode b_T_addPath 1 = .ok (.iconst 1, 1) := by decide +kernel
theorem d_T_addPath_2 : decode b_T_addPath 2 = .ok (.if_icmp .le 9, 3) := by decide +kernel
theorem d_T_addPath_5 : decode b_T_addPath 5 = .ok (.iload_n 3, 1) := by decide +kernel
theorem d_T_addPath_6 : decode b_T_addPath 6 = .ok (.bipush 64, 2) := by decide +kernel
theorem d_T_addPath_8 : decode b_T_addPath 8 = .ok (.if_icmp .le 4, 3) := by decide +kernel
theorem d_T_addPath_11 : decode b_T_addPath 11 = .ok (.return_, 1) := by decide +kernel
theorem d_T_addPath_12 : decode b_T_addPath 12 = .ok (.iload_n 3, 1) := by decide +kernel
theorem d_T_addPath_13 : decode b_T_addPath 13 = .ok (.invokestatic 121, 3) := by decide +kernel
theorem d_T_addPath_16 : decode b_T_addPath 16 = .ok (.istore 4, 2) := by decide +kernel
theorem d_T_addPath_18 : decode b_T_addPath 18 = .ok (.iload_n 1, 1) := by decide +kernel
theorem d_T_addPath_19 : decode b_T_addPath 19 = .ok (.iload 4, 2) := by decide +kernel
theorem d_T_addPath_21 : decode b_T_addPath 21 = .ok (.if_icmp .ge 26, 3) := by decide +kernel
theorem d_T_addPath_24 : decode b_T_addPath 24 = .ok (.aload_n 0, 1) := by decide +kernel
theorem d_T_addPath_25 : decode b_T_addPath 25 = .ok (.iload_n 1, 1) := by decide +kernel
theorem d_T_addPath_26 : decode b_T_addPath 26 = .ok (.iload_n 2, 1) := by decide +kernel
theorem d_T_addPath_27 : decode b_T_addPath 27 = .ok (.iload 4, 2) := by decide +kernel
theorem d_T_addPath_29 : decode b_T_addPath 29 = .ok (.invokevirtual 89, 3) := by decide +kernel
theorem d_T_addPath_32 : decode b_T_addPath 32 = .ok (.aload_n 0, 1) := by decide +kernel
theorem d_T_addPath_33 : decode b_T_addPath 33 = .ok (.iload_n 2, 1) := by decide +kernel
theorem d_T_addPath_34 : decode b_T_addPath 34 = .ok (.iload 4, 2) := by decide +kernel
theorem d_T_addPath_36 : decode b_T_addPath 36 = .ok (.iadd, 1) := by decide +kernel
theorem d_T_addPath_37 : decode b_T_addPath 37 = .ok (.iload_n 3, 1) := by decide +kernel
theorem d_T_addPath_38 : decode b_T_addPath 38 = .ok (.iload 4, 2) := by decide +kernel
theorem d_T_addPath_40 : decode b_T_addPath 40 = .ok (.isub, 1) := by decide +kernel
theorem d_T_addPath_41 : decode b_T_addPath 41 = .ok (.invokevirtual 124, 3) := by decide +kernel
theorem d_T_addPath_44 : decode b_T_addPath 44 = .ok (.goto 26, 3) := by decide +kernel
theorem d_T_addPath_47 : decode b_T_addPath 47 = .ok (.aload_n 0, 1) := by decide +kernel
theorem d_T_addPath_48 : decode b_T_addPath 48 = .ok (.iload_n 1, 1) := by decide +kernel
theorem d_T_addPath_49 : decode b_T_addPath 49 = .ok (.iload 4, 2) := by decide +kernel
theorem d_T_addPath_51 : decode b_T_addPath 51 = .ok (.isub, 1) := by decide +kernel
theorem d_T_addPath_52 : decode b_T_addPath 52 = .ok (.iload_n 2, 1) := by decide +kernel
theorem d_T_addPath_53 : decode b_T_addPath 53 = .ok (.iload 4, 2) := by decide +kernel
theorem d_T_addPath_55 : decode b_T_addPath 55 = .ok (.iadd, 1) := by decide +kernel
theorem d_T_addPath_56 : decode b_T_addPath 56 = .ok (.iload_n 3, 1) := by decide +kernel
theorem d_T_addPath_57 : decode b_T_addPath 57 = .ok (.iload 4, 2) := by decide +kernel
theorem d_T_addPath_59 : decode b_T_addPath 59 = .ok (.isub, 1) := by decide +kernel
theorem d_T_addPath_60 : decode b_T_addPath 60 = .ok (.invokevirtual 89, 3) := by decide +kernel
theorem d_T_addPath_63 : decode b_T_addPath 63 = .ok (.aload_n 0, 1) := by decide +kernel
theorem d_T_addPath_64 : decode b_T_addPath 64 = .ok (.iload_n 2, 1) := by decide +kernel
theorem d_T_addPath_65 : decode b_T_addPath 65 = .ok (.iload 4, 2) := by decide +kernel
theorem d_T_addPath_67 : decode b_T_addPath 67 = .ok (.invokevirtual 124, 3) := by decide +kernel
theorem d_T_addPath_70 : decode b_T_addPath 70 = .ok (.return_, 1) := by decide +kernel
theorem d_T_addBridge_0 : decode b_T_addBridge 0 = .ok (.iload_n 1, 1) := by decide +kernel
theorem d_T_addBridge_1 : decode b_T_addBridge 1 = .ok (.iconst 1, 1) := by decide +kernel
theorem d_T_addBridge_2 : decode b_T_addBridge 2 = .ok (.if_icmp .lt 14, 3) := by decide +kernel
theorem d_T_addBridge_5 : decode b_T_addBridge 5 = .ok (.iload_n 1, 1) := by decide +kernel
theorem d_T_addBridge_6 : decode b_T_addBridge 6 = .ok (.iload_n 3, 1) := by decide +kernel
theorem d_T_addBridge_7 : decode b_T_addBridge 7 = .ok (.if_icmp .gt 9, 3) := by decide +kernel
theorem d_T_addBridge_10 : decode b_T_addBridge 10 = .ok (.iload_n 3, 1) := by decide +kernel
theorem d_T_addBridge_11 : decode b_T_addBridge 11 = .ok (.bipush 64, 2) := by decide +kernel
theorem d_T_addBridge_13 : decode b_T_addBridge 13 = .ok (.if_icmp .le 4, 3) := by decide +kernel
theorem d_T_addBridge_16 : decode b_T_addBridge 16 = .ok (.return_, 1) := by decide +kernel
theorem d_T_addBridge_17 : decode b_T_addBridge 17 = .ok (.iload_n 1, 1) := by decide +kernel
theorem d_T_addBridge_18 : decode b_T_addBridge 18 = .ok (.iload_n 3, 1) := by decide +kernel
theorem d_T_addBridge_19 : decode b_T_addBridge 19 = .ok (.if_icmp .ne 15, 3) := by decide +kernel
theorem d_T_addBridge_22 : decode b_T_addBridge 22 = .ok (.iload 4, 2) := by decide +kernel
theorem d_T_addBridge_24 : decode b_T_addBridge 24 = .ok (.ifCond .ne 9, 3) := by decide +kernel
theorem d_T_addBridge_27 : decode b_T_addBridge 27 = .ok (.aload_n 0, 1) := by decide +kernel
theorem d_T_addBridge_28 : decode b_T_addBridge 28 = .ok (.iload_n 2, 1) := by decide +kernel
theorem d_T_addBridge_29 : decode b_T_addBridge 29 = .ok (.iload_n 3, 1) := by decide +kernel
theorem d_T_addBridge_30 : decode b_T_addBridge 30 = .ok (.invokevirtual 124, 3) := by decide +kernel
theorem d_T_addBridge_33 : decode b_T_addBridge 33 = .ok (.return_, 1) := by decide +kernel
theorem d_T_addBridge_34 : decode b_T_addBridge 34 = .ok (.iload_n 3, 1) := by decide +kernel
theorem d_T_addBridge_35 : decode b_T_addBridge 35 = .ok (.invokestatic 121, 3) := by decide +kernel
theorem d_T_addBridge_38 : decode b_T_addBridge 38 = .ok (.istore 5, 2) := by decide +kernel
theorem d_T_addBridge_40 : decode b_T_addBridge 40 = .ok (.iload_n 1, 1) := by decide +kernel
theorem d_T_addBridge_41 : decode b_T_addBridge 41 = .ok (.iload 5, 2) := by decide +kernel
theorem d_T_addBridge_43 : decode b_T_addBridge 43 = .ok (.if_icmp .gt 28, 3) := by decide +kernel
theorem d_T_addBridge_46 : decode b_T_addBridge 46 = .ok (.aload_n 0, 1) := by decide +kernel
theorem d_T_addBridge_47 : decode b_T_addBridge 47 = .ok (.iload_n 1, 1) := by decide +kernel
theorem d_T_addBridge_48 : decode b_T_addBridge 48 = .ok (.iload_n 2, 1) := by decide +kernel
theorem d_T_addBridge_49 : decode b_T_addBridge 49 = .ok (.iload 5, 2) := by decide +kernel
theorem d_T_addBridge_51 : decode b_T_addBridge 51 = .ok (.iload 4, 2) := by decide +kernel
theorem d_T_addBridge_53 : decode b_T_addBridge 53 = .ok (.invokevirtual 93, 3) := by decide +kernel
theorem d_T_addBridge_56 : decode b_T_addBridge 56 = .ok (.aload_n 0, 1) := by decide +kernel
theorem d_T_addBridge_57 : decode b_T_addBridge 57 = .ok (.iload_n 2, 1) := by decide +kernel
theorem d_T_addBridge_58 : decode b_T_addBridge 58 = .ok (.iload 5, 2) := by decide +kernel
theorem d_T_addBridge_60 : decode b_T_addBridge 60 = .ok (.iadd, 1) := by decide +kernel
theorem d_T_addBridge_61 : decode b_T_addBridge 61 = .ok (.iload_n 3, 1) := by decide +kernel
theorem d_T_addBridge_62 : decode b_T_addBridge 62 = .ok (.iload 5, 2) := by decide +kernel
theorem d_T_addBridge_64 : decode b_T_addBridge 64 = .ok (.isub, 1) := by decide +kernel
theorem d_T_addBridge_65 : decode b_T_addBridge 65 = .ok (.invokevirtual 124, 3) := by decide +kernel
theorem d_T_addBridge_68 : decode b_T_addBridge 68 = .ok (.goto 27, 3) := by decide +kernel
theorem d_T_addBridge_71 : decode b_T_addBridge 71 = .ok (.aload_n 0, 1) := by decide +kernel
theorem d_T_addBridge_72 : decode b_T_addBridge 72 = .ok (.iload_n 1, 1) := by decide +kernel
theorem d_T_addBridge_73 : decode b_T_addBridge 73 = .ok (.iload 5, 2) := by decide +kernel
theorem d_T_addBridge_75 : decode b_T_addBridge 75 = .ok (.isub, 1) := by decide +kernel
theorem d_T_addBridge_76 : decode b_T_addBridge 76 = .ok (.iload_n 2, 1) := by decide +kernel
theorem d_T_addBridge_77 : decode b_T_addBridge 77 = .ok (.iload 5, 2) := by decide +kernel
theorem d_T_addBridge_79 : decode b_T_addBridge 79 = .ok (.iadd, 1) := by decide +kernel
theorem d_T_addBridge_80 : decode b_T_addBridge 80 = .ok (.iload_n 3, 1) := by decide +kernel
theorem d_T_addBridge_81 : decode b_T_addBridge 81 = .ok (.iload 5, 2) := by decide +kernel
theorem d_T_addBridge_83 : decode b_T_addBridge 83 = .ok (.isub, 1) := by decide +kernel
theorem d_T_addBridge_84 : decode b_T_addBridge 84 = .ok (.iconst 0, 1) := by decide +kernel
theorem d_T_addBridge_85 : decode b_T_addBridge 85 = .ok (.invokevirtual 93, 3) := by decide +kernel
theorem d_T_addBridge_88 : decode b_T_addBridge 88 = .ok (.aload_n 0, 1) := by decide +kernel
theorem d_T_addBridge_89 : decode b_T_addBridge 89 = .ok (.iload_n 2, 1) := by decide +kernel
theorem d_T_addBridge_90 : decode b_T_addBridge 90 = .ok (.iload 5, 2) := by decide +kernel
theorem d_T_addBridge_92 : decode b_T_addBridge 92 = .ok (.invokevirtual 124, 3) := by decide +kernel
theorem d_T_addBridge_95 : decode b_T_addBridge 95 = .ok (.return_, 1) := by decide +kernel
theorem d_T_addToProof_0 : decode b_T_addToProof 0 = .ok (.aload_n 0, 1) := by decide +kernel
theorem d_T_addToProof_1 : decode b_T_addToProof 1 = .ok (.getfield 20, 3) := by decide +kernel
theorem d_T_addToProof_4 : decode b_T_addToProof 4 = .ok (.bipush 7, 2) := by decide +kernel
theorem d_T_addToProof_6 : decode b_T_addToProof 6 = .ok (.if_icmp .ge 34, 3) := by decide +kernel
theorem d_T_addToProof_9 : decode b_T_addToProof 9 = .ok (.aload_n 0, 1) := by decide +kernel
theorem d_T_addToProof_10 : decode b_T_addToProof 10 = .ok (.getfield 16, 3) := by decide +kernel
theorem d_T_addToProof_13 : decode b_T_addToProof 13 = .ok (.aload_n 0, 1) := by decide +kernel
theorem d_T_addToProof_14 : decode b_T_addToProof 14 = .ok (.getfield 20, 3) := by decide +kernel
theorem d_T_addToProof_17 : decode b_T_addToProof 17 = .ok (.aload_n 0, 1) := by decide +kernel
theorem d_T_addToProof_18 : decode b_T_addToProof 18 = .ok (.getfield 10, 3) := by decide +kernel
theorem d_T_addToProof_21 : decode b_T_addToProof 21 = .ok (.getfield 52, 3) := by decide +kernel
theorem d_T_addToProof_24 : decode b_T_addToProof 24 = .ok (.iload_n 1, 1) := by decide +kernel
theorem d_T_addToProof_25 : decode b_T_addToProof 25 = .ok (.iload_n 2, 1) := by decide +kernel
theorem d_T_addToProof_26 : decode b_T_addToProof 26 = .ok (.invokestatic 55, 3) := by decide +kernel
theorem d_T_addToProof_29 : decode b_T_addToProof 29 = .ok (.lastore, 1) := by decide +kernel
theorem d_T_addToProof_30 : decode b_T_addToProof 30 = .ok (.aload_n 0, 1) := by decide +kernel
theorem d_T_addToProof_31 : decode b_T_addToProof 31 = .ok (.dup, 1) := by decide +kernel
theorem d_T_addToProof_32 : decode b_T_addToProof 32 = .ok (.getfield 20, 3) := by decide +kernel
theorem d_T_addToProof_35 : decode b_T_addToProof 35 = .ok (.iconst 1, 1) := by decide +kernel
theorem d_T_addToProof_36 : decode b_T_addToProof 36 = .ok (.iadd, 1) := by decide +kernel
theorem d_T_addToProof_37 : decode b_T_addToProof 37 = .ok (.putfield 20, 3) := by decide +kernel
theorem d_T_addToProof_40 : decode b_T_addToProof 40 = .ok (.return_, 1) := by decide +kernel
