theorem d_H_mix_0 : decode b_H_mix 0 = .ok (.lload_n 0, 1) := by decide +kernel
theorem d_H_mix_1 : decode b_H_mix 1 = .ok (.lload_n 0, 1) := by decide +kernel
theorem d_H_mix_2 : decode b_H_mix 2 = .ok (.bipush 29, 2) := by decide +kernel
theorem d_H_mix_4 : decode b_H_mix 4 = .ok (.lushr, 1) := by decide +kernel
theorem d_H_mix_5 : decode b_H_mix 5 = .ok (.lxor, 1) := by decide +kernel
theorem d_H_mix_6 : decode b_H_mix 6 = .ok (.ldc2_w 11, 3) := by decide +kernel
theorem d_H_mix_9 : decode b_H_mix 9 = .ok (.lmul, 1) := by decide +kernel
theorem d_H_mix_10 : decode b_H_mix 10 = .ok (.lload_n 2, 1) := by decide +kernel
theorem d_H_mix_11 : decode b_H_mix 11 = .ok (.ladd, 1) := by decide +kernel
theorem d_H_mix_12 : decode b_H_mix 12 = .ok (.lstore 4, 2) := by decide +kernel
theorem d_H_mix_14 : decode b_H_mix 14 = .ok (.lload 4, 2) := by decide +kernel
theorem d_H_mix_16 : decode b_H_mix 16 = .ok (.lload 4, 2) := by decide +kernel
theorem d_H_mix_18 : decode b_H_mix 18 = .ok (.bipush 32, 2) := by decide +kernel
theorem d_H_mix_20 : decode b_H_mix 20 = .ok (.lushr, 1) := by decide +kernel
theorem d_H_mix_21 : decode b_H_mix 21 = .ok (.lxor, 1) := by decide +kernel
theorem d_H_mix_22 : decode b_H_mix 22 = .ok (.ldc2_w 13, 3) := by decide +kernel
theorem d_H_mix_25 : decode b_H_mix 25 = .ok (.lmul, 1) := by decide +kernel
theorem d_H_mix_26 : decode b_H_mix 26 = .ok (.lstore 6, 2) := by decide +kernel
theorem d_H_mix_28 : decode b_H_mix 28 = .ok (.lload 6, 2) := by decide +kernel
theorem d_H_mix_30 : decode b_H_mix 30 = .ok (.lload 6, 2) := by decide +kernel
theorem d_H_mix_32 : decode b_H_mix 32 = .ok (.bipush 31, 2) := by decide +kernel
theorem d_H_mix_34 : decode b_H_mix 34 = .ok (.lushr, 1) := by decide +kernel
theorem d_H_mix_35 : decode b_H_mix 35 = .ok (.lxor, 1) := by decide +kernel
theorem d_H_mix_36 : decode b_H_mix 36 = .ok (.lreturn, 1) := by decide +kernel
theorem d_H_ofLeaf_0 : decode b_H_ofLeaf 0 = .ok (.ldc2_w 15, 3) := by decide +kernel
theorem d_H_ofLeaf_3 : decode b_H_ofLeaf 3 = .ok (.lload_n 0, 1) := by decide +kernel
theorem d_H_ofLeaf_4 : decode b_H_ofLeaf 4 = .ok (.invokestatic 17, 3) := by decide +kernel
theorem d_H_ofLeaf_7 : decode b_H_ofLeaf 7 = .ok (.lconst 1, 1) := by decide +kernel
theorem d_H_ofLeaf_8 : decode b_H_ofLeaf 8 = .ok (.invokestatic 17, 3) := by decide +kernel
theorem d_H_ofLeaf_11 : decode b_H_ofLeaf 11 = .ok (.lreturn, 1) := by decide +kernel
theorem d_H_ofNode_0 : decode b_H_ofNode 0 = .ok (.lload_n 0, 1) := by decide +kernel
theorem d_H_ofNode_1 : decode b_H_ofNode 1 = .ok (.lload_n 2, 1) := by decide +kernel
theorem d_H_ofNode_2 : decode b_H_ofNode 2 = .ok (.invokestatic 17, 3) := by decide +kernel
theorem d_H_ofNode_5 : decode b_H_ofNode 5 = .ok (.ldc2_w 21, 3) := by decide +kernel
theorem d_H_ofNode_8 : decode b_H_ofNode 8 = .ok (.invokestatic 17, 3) := by decide +kernel
theorem d_H_ofNode_11 : decode b_H_ofNode 11 = .ok (.lreturn, 1) := by decide +kernel
theorem d_H_half_0 : decode b_H_half 0 = .ok (.iconst 1, 1) := by decide +kernel
theorem d_H_half_1 : decode b_H_half 1 = .ok (.istore_n 1, 1) := by decide +kernel
theorem d_H_half_2 : decode b_H_half 2 = .ok (.iload_n 1, 1) := by decide +kernel
theorem d_H_half_3 : decode b_H_half 3 = .ok (.bipush 64, 2) := by decide +kernel
theorem d_H_half_5 : decode b_H_half 5 = .ok (.if_icmp .ge 17, 3) := by decide +kernel
theorem d_H_half_8 : decode b_H_half 8 = .ok (.iload_n 1, 1) := by decide +kernel
theorem d_H_half_9 : decode b_H_half 9 = .ok (.iconst 2, 1) := by decide +kernel
theorem d_H_half_10 : decode b_H_half 10 = .ok (.imul, 1) := by decide +kernel
theorem d_H_half_11 : decode b_H_half 11 = .ok (.iload_n 0, 1) := by decide +kernel
theorem d_H_half_12 : decode b_H_half 12 = .ok (.if_icmp .ge 10, 3) := by decide +kernel
theorem d_H_half_15 : decode b_H_half 15 = .ok (.iload_n 1, 1) := by decide +kernel
theorem d_H_half_16 : decode b_H_half 16 = .ok (.iconst 2, 1) := by decide +kernel
theorem d_H_half_17 : decode b_H_half 17 = .ok (.imul, 1) := by decide +kernel
theorem d_H_half_18 : decode b_H_half 18 = .ok (.istore_n 1, 1) := by decide +kernel
theorem d_H_half_19 : decode b_H_half 19 = .ok (.goto (-17), 3) := by decide +kernel
theorem d_H_half_22 : decode b_H_half 22 = .ok (.iload_n 1, 1) := by decide +kernel
theorem d_H_half_23 : decode b_H_half 23 = .ok (.ireturn, 1) := by decide +kernel
theorem d_H_ofRow_0 : decode b_H_ofRow 0 = .ok (.iload_n 2, 1) := by decide +kernel
theorem d_H_ofRow_1 : decode b_H_ofRow 1 = .ok (.iconst 1, 1) := by decide +kernel
theorem d_H_ofRow_2 : decode b_H_ofRow 2 = .ok (.if_icmp .lt 21, 3) := by decide +kernel
theorem d_H_ofRow_5 : decode b_H_ofRow 5 = .ok (.iload_n 2, 1) := by decide +kernel
theorem d_H_ofRow_6 : decode b_H_ofRow 6 = .ok (.bipush 64, 2) := by decide +kernel
theorem d_H_ofRow_8 : decode b_H_ofRow 8 = .ok (.if_icmp .gt 15, 3) := by decide +kernel
theorem d_H_ofRow_11 : decode b_H_ofRow 11 = .ok (.iload_n 1, 1) := by decide +kernel
theorem d_H_ofRow_12 : decode b_H_ofRow 12 = .ok (.ifCond .lt 11, 3) := by decide +kernel
theorem d_H_ofRow_15 : decode b_H_ofRow 15 = .ok (.iload_n 1, 1) := by decide +kernel
theorem d_H_ofRow_16 : decode b_H_ofRow 16 = .ok (.aload_n 0, 1) := by decide +kernel
theorem d_H_ofRow_17 : decode b_H_ofRow 17 = .ok (.arraylength, 1) := by decide +kernel
theorem d_H_ofRow_18 : decode b_H_ofRow 18 = .ok (.iload_n 2, 1) := by decide +kernel
theorem d_H_ofRow_19 : decode b_H_ofRow 19 = .ok (.isub, 1) := by decide +kernel
theorem d_H_ofRow_20 : decode b_H_ofRow 20 = .ok (.if_icmp .le 5, 3) := by decide +kernel
theorem d_H_ofRow_23 : decode b_H_ofRow 23 = .ok (.lconst 0, 1) := by decide +kernel
theorem d_H_ofRow_24 : decode b_H_ofRow 24 = .ok (.lreturn, 1) := by decide +kernel
theorem d_H_ofRow_25 : decode b_H_ofRow 25 = .ok (.iload_n 2, 1) := by decide +kernel
theorem d_H_ofRow_26 : decode b_H_ofRow 26 = .ok (.iconst 1, 1) := by decide +kernel
theorem d_H_ofRow_27 : decode b_H_ofRow 27 = .ok (.if_icmp .ne 10, 3) := by decide +kernel
theorem d_H_ofRow_30 : decode b_H_ofRow 30 = .ok (.aload_n 0, 1) := by decide +kernel
theorem d_H_ofRow_31 : decode b_H_ofRow 31 = .ok (.iload_n 1, 1) := by decide +kernel
theorem d_H_ofRow_32 : decode b_H_ofRow 32 = .ok (.laload, 1) := by decide +kernel
theorem d_H_ofRow_33 : decode b_H_ofRow 33 = .ok (.invokestatic 23, 3) := by decide +kernel
theorem d_H_ofRow_36 : decode b_H_ofRow 36 = .ok (.lreturn, 1) := by decide +kernel
theorem d_H_ofRow_37 : decode b_H_ofRow 37 = .ok (.iload_n 2, 1) := by decide +kernel
theorem d_H_ofRow_38 : decode b_H_ofRow 38 = .ok (.invokestatic 27, 3) := by decide +kernel
theorem d_H_ofRow_41 : decode b_H_ofRow 41 = .ok (.istore_n 3, 1) := by decide +kernel
theorem d_H_ofRow_42 : decode b_H_ofRow 42 = .ok (.aload_n 0, 1) := by decide +kernel
theorem d_H_ofRow_43 : decode b_H_ofRow 43 = .ok (.iload_n 1, 1) := by decide +kernel
theorem d_H_ofRow_44 : decode b_H_ofRow 44 = .ok (.iload_n 3, 1) := by decide +kernel
theorem d_H_ofRow_45 : decode b_H_ofRow 45 = .ok (.invokestatic 31, 3) := by decide +kernel
theorem d_H_ofRow_48 : decode b_H_ofRow 48 = .ok (.aload_n 0, 1) := by decide +kernel
theorem d_H_ofRow_49 : decode b_H_ofRow 49 = .ok (.iload_n 1, 1) := by decide +kernel
theorem d_H_ofRow_50 : decode b_H_ofRow 50 = .ok (.iload_n 3, 1) := by decide +kernel
theorem d_H_ofRow_51 : decode b_H_ofRow 51 = .ok (.iadd, 1) := by decide +kernel
theorem d_H_ofRow_52 : decode b_H_ofRow 52 = .ok (.iload_n 2, 1) := by decide +kernel
theorem d_H_ofRow_53 : decode b_H_ofRow 53 = .ok (.iload_n 3, 1) := by decide +kernel
theorem d_H_ofRow_54 : decode b_H_ofRow 54 = .ok (.isub, 1) := by decide +kernel
theorem d_H_ofRow_55 : decode b_H_ofRow 55 = .ok (.invokestatic 31, 3) := by decide +kernel
theorem d_H_ofRow_58 : decode b_H_ofRow 58 = .ok (.invokestatic 35, 3) := by decide +kernel
theorem d_H_ofRow_61 : decode b_H_ofRow 61 = .ok (.lreturn, 1) := by decide +kernel
theorem d_M_mix_0 : decode b_M_mix 0 = .ok (.lload_n 0, 1) := by decide +kernel
theorem d_M_mix_1 : decode b_M_mix 1 = .ok (.lload_n 0, 1) := by decide +kernel
theorem d_M_mix_2 : decode b_M_mix 2 = .ok (.bipush 29, 2) := by decide +kernel
theorem d_M_mix_4 : decode b_M_mix 4 = .ok (.lushr, 1) := by decide +kernel
theorem d_M_mix_5 : decode b_M_mix 5 = .ok (.lxor, 1) := by decide +kernel
theorem d_M_mix_6 : decode b_M_mix 6 = .ok (.ldc2_w 46, 3) := by decide +kernel
theorem d_M_mix_9 : decode b_M_mix 9 = .ok (.lmul, 1) := by decide +kernel
theorem d_M_mix_10 : decode b_M_mix 10 = .ok (.lload_n 2, 1) := by decide +kernel
theorem d_M_mix_11 : decode b_M_mix 11 = .ok (.ladd, 1) := by decide +kernel
theorem d_M_mix_12 : decode b_M_mix 12 = .ok (.lstore 4, 2) := by decide +kernel
theorem d_M_mix_14 : decode b_M_mix 14 = .ok (.lload 4, 2) := by decide +kernel
theorem d_M_mix_16 : decode b_M_mix 16 = .ok (.lload 4, 2) := by decide +kernel
theorem d_M_mix_18 : decode b_M_mix 18 = .ok (.bipush 32, 2) := by decide +kernel
theorem d_M_mix_20 : decode b_M_mix 20 = .ok (.lushr, 1) := by decide +kernel
theorem d_M_mix_21 : decode b_M_mix 21 = .ok (.lxor, 1) := by decide +kernel
theorem d_M_mix_22 : decode b_M_mix 22 = .ok (.ldc2_w 48, 3) := by decide +kernel
theorem d_M_mix_25 : decode b_M_mix 25 = .ok (.lmul, 1) := by decide +kernel
theorem d_M_mix_26 : decode b_M_mix 26 = .ok (.lstore 6, 2) := by decide +kernel
theorem d_M_mix_28 : decode b_M_mix 28 = .ok (.lload 6, 2) := by decide +kernel
theorem d_M_mix_30 : decode b_M_mix 30 = .ok (.lload 6, 2) := by decide +kernel
theorem d_M_mix_32 : decode b_M_mix 32 = .ok (.bipush 31, 2) := by decide +kernel
theorem d_M_mix_34 : decode b_M_mix 34 = .ok (.lushr, 1) := by decide +kernel
theorem d_M_mix_35 : decode b_M_mix 35 = .ok (.lxor, 1) := by decide +kernel
theorem d_M_mix_36 : decode b_M_mix 36 = .ok (.lreturn, 1) := by decide +kernel
theorem d_M_leaf_0 : decode b_M_leaf 0 = .ok (.ldc2_w 50, 3) := by decide +kernel
theorem d_M_leaf_3 : decode b_M_leaf 3 = .ok (.lload_n 0, 1) := by decide +kernel
theorem d_M_leaf_4 : decode b_M_leaf 4 = .ok (.invokestatic 52, 3) := by decide +kernel
theorem d_M_leaf_7 : decode b_M_leaf 7 = .ok (.lconst 1, 1) := by decide +kernel
theorem d_M_leaf_8 : decode b_M_leaf 8 = .ok (.invokestatic 52, 3) := by decide +kernel
theorem d_M_leaf_11 : decode b_M_leaf 11 = .ok (.lreturn, 1) := by decide +kernel
theorem d_M_node_0 : decode b_M_node 0 = .ok (.lload_n 0, 1) := by decide +kernel
theorem d_M_node_1 : decode b_M_node 1 = .ok (.lload_n 2, 1) := by decide +kernel
theorem d_M_node_2 : decode b_M_node 2 = .ok (.invokestatic 52, 3) := by decide +kernel
theorem d_M_node_5 : decode b_M_node 5 = .ok (.ldc2_w 56, 3) := by decide +kernel
theorem d_M_node_8 : decode b_M_node 8 = .ok (.invokestatic 52, 3) := by decide +kernel
theorem d_M_node_11 : decode b_M_node 11 = .ok (.lreturn, 1) := by decide +kernel
theorem d_M_half_0 : decode b_M_half 0 = .ok (.iconst 1, 1) := by decide +kernel
theorem d_M_half_1 : decode b_M_half 1 = .ok (.istore_n 1, 1) := by decide +kernel
theorem d_M_half_2 : decode b_M_half 2 = .ok (.iconst 2, 1) := by decide +kernel
theorem d_M_half_3 : decode b_M_half 3 = .ok (.iload_n 1, 1) := by decide +kernel
theorem d_M_half_4 : decode b_M_half 4 = .ok (.imul, 1) := by decide +kernel
theorem d_M_half_5 : decode b_M_half 5 = .ok (.iload_n 0, 1) := by decide +kernel
theorem d_M_half_6 : decode b_M_half 6 = .ok (.if_icmp .ge 10, 3) := by decide +kernel
theorem d_M_half_9 : decode b_M_half 9 = .ok (.iconst 2, 1) := by decide +kernel
theorem d_M_half_10 : decode b_M_half 10 = .ok (.iload_n 1, 1) := by decide +kernel
theorem d_M_half_11 : decode b_M_half 11 = .ok (.imul, 1) := by decide +kernel
theorem d_M_half_12 : decode b_M_half 12 = .ok (.istore_n 1, 1) := by decide +kernel
theorem d_M_half_13 : decode b_M_half 13 = .ok (.goto (-11), 3) := by decide +kernel
theorem d_M_half_16 : decode b_M_half 16 = .ok (.iload_n 1, 1) := by decide +kernel
theorem d_M_half_17 : decode b_M_half 17 = .ok (.ireturn, 1) := by decide +kernel
