-- decode rows
theorem d_W_init_0 : decode c_W_init 0 = .ok (.aload_n 0, 1) := by decide +kernel
theorem d_W_init_1 : decode c_W_init 1 = .ok (.invokespecial 1, 3) := by decide +kernel
theorem d_W_init_4 : decode c_W_init 4 = .ok (.aload_n 0, 1) := by decide +kernel
theorem d_W_init_5 : decode c_W_init 5 = .ok (.new 7, 3) := by decide +kernel
theorem d_W_init_8 : decode c_W_init 8 = .ok (.dup, 1) := by decide +kernel
theorem d_W_init_9 : decode c_W_init 9 = .ok (.invokespecial 9, 3) := by decide +kernel
theorem d_W_init_12 : decode c_W_init 12 = .ok (.putfield 10, 3) := by decide +kernel
theorem d_W_init_15 : decode c_W_init 15 = .ok (.aload_n 0, 1) := by decide +kernel
theorem d_W_init_16 : decode c_W_init 16 = .ok (.new 16, 3) := by decide +kernel
theorem d_W_init_19 : decode c_W_init 19 = .ok (.dup, 1) := by decide +kernel
theorem d_W_init_20 : decode c_W_init 20 = .ok (.invokespecial 18, 3) := by decide +kernel
theorem d_W_init_23 : decode c_W_init 23 = .ok (.putfield 19, 3) := by decide +kernel
theorem d_W_init_26 : decode c_W_init 26 = .ok (.aload_n 0, 1) := by decide +kernel
theorem d_W_init_27 : decode c_W_init 27 = .ok (.new 23, 3) := by decide +kernel
theorem d_W_init_30 : decode c_W_init 30 = .ok (.dup, 1) := by decide +kernel
theorem d_W_init_31 : decode c_W_init 31 = .ok (.invokespecial 25, 3) := by decide +kernel
theorem d_W_init_34 : decode c_W_init 34 = .ok (.putfield 26, 3) := by decide +kernel
theorem d_W_init_37 : decode c_W_init 37 = .ok (.aload_n 0, 1) := by decide +kernel
theorem d_W_init_38 : decode c_W_init 38 = .ok (.new 30, 3) := by decide +kernel
theorem d_W_init_41 : decode c_W_init 41 = .ok (.dup, 1) := by decide +kernel
theorem d_W_init_42 : decode c_W_init 42 = .ok (.invokespecial 32, 3) := by decide +kernel
theorem d_W_init_45 : decode c_W_init 45 = .ok (.putfield 33, 3) := by decide +kernel
theorem d_W_init_48 : decode c_W_init 48 = .ok (.aload_n 0, 1) := by decide +kernel
theorem d_W_init_49 : decode c_W_init 49 = .ok (.new 37, 3) := by decide +kernel
theorem d_W_init_52 : decode c_W_init 52 = .ok (.dup, 1) := by decide +kernel
theorem d_W_init_53 : decode c_W_init 53 = .ok (.invokespecial 39, 3) := by decide +kernel
theorem d_W_init_56 : decode c_W_init 56 = .ok (.putfield 40, 3) := by decide +kernel
theorem d_W_init_59 : decode c_W_init 59 = .ok (.aload_n 0, 1) := by decide +kernel
theorem d_W_init_60 : decode c_W_init 60 = .ok (.iconst 5, 1) := by decide +kernel
theorem d_W_init_61 : decode c_W_init 61 = .ok (.newarray .long, 2) := by decide +kernel
theorem d_W_init_63 : decode c_W_init 63 = .ok (.putfield 44, 3) := by decide +kernel
theorem d_W_init_66 : decode c_W_init 66 = .ok (.return_, 1) := by decide +kernel
theorem d_W_node_0 : decode c_W_node 0 = .ok (.aload_n 0, 1) := by decide +kernel
theorem d_W_node_1 : decode c_W_node 1 = .ok (.getfield 10, 3) := by decide +kernel
theorem d_W_node_4 : decode c_W_node 4 = .ok (.getfield 48, 3) := by decide +kernel
theorem d_W_node_7 : decode c_W_node 7 = .ok (.iconst 5, 1) := by decide +kernel
theorem d_W_node_8 : decode c_W_node 8 = .ok (.if_icmp .lt 6, 3) := by decide +kernel
theorem d_W_node_11 : decode c_W_node 11 = .ok (.bipush (-4), 2) := by decide +kernel
theorem d_W_node_13 : decode c_W_node 13 = .ok (.ireturn, 1) := by decide +kernel
theorem d_W_node_14 : decode c_W_node 14 = .ok (.aload_n 0, 1) := by decide +kernel
theorem d_W_node_15 : decode c_W_node 15 = .ok (.getfield 10, 3) := by decide +kernel
theorem d_W_node_18 : decode c_W_node 18 = .ok (.invokevirtual 52, 3) := by decide +kernel
theorem d_W_node_21 : decode c_W_node 21 = .ok (.istore_n 1, 1) := by decide +kernel
theorem d_W_node_22 : decode c_W_node 22 = .ok (.aload_n 0, 1) := by decide +kernel
theorem d_W_node_23 : decode c_W_node 23 = .ok (.invokevirtual 56, 3) := by decide +kernel
theorem d_W_node_26 : decode c_W_node 26 = .ok (.iload_n 1, 1) := by decide +kernel
theorem d_W_node_27 : decode c_W_node 27 = .ok (.ireturn, 1) := by decide +kernel
theorem d_W_renew_0 : decode c_W_renew 0 = .ok (.aload_n 0, 1) := by decide +kernel
theorem d_W_renew_1 : decode c_W_renew 1 = .ok (.getfield 19, 3) := by decide +kernel
theorem d_W_renew_4 : decode c_W_renew 4 = .ok (.aload_n 0, 1) := by decide +kernel
theorem d_W_renew_5 : decode c_W_renew 5 = .ok (.getfield 10, 3) := by decide +kernel
theorem d_W_renew_8 : decode c_W_renew 8 = .ok (.invokevirtual 171, 3) := by decide +kernel
theorem d_W_renew_11 : decode c_W_renew 11 = .ok (.aload_n 0, 1) := by decide +kernel
theorem d_W_renew_12 : decode c_W_renew 12 = .ok (.getfield 26, 3) := by decide +kernel
theorem d_W_renew_15 : decode c_W_renew 15 = .ok (.aload_n 0, 1) := by decide +kernel
theorem d_W_renew_16 : decode c_W_renew 16 = .ok (.getfield 19, 3) := by decide +kernel
theorem d_W_renew_19 : decode c_W_renew 19 = .ok (.invokevirtual 173, 3) := by decide +kernel
theorem d_W_renew_22 : decode c_W_renew 22 = .ok (.return_, 1) := by decide +kernel
theorem d_W_greatestDivisor_0 : decode c_W_greatestDivisor 0 = .ok (.lload_n 0, 1) := by decide +kernel
theorem d_W_greatestDivisor_1 : decode c_W_greatestDivisor 1 = .ok (.lstore 4, 2) := by decide +kernel
theorem d_W_greatestDivisor_3 : decode c_W_greatestDivisor 3 = .ok (.lload_n 2, 1) := by decide +kernel
theorem d_W_greatestDivisor_4 : decode c_W_greatestDivisor 4 = .ok (.lstore 6, 2) := by decide +kernel
theorem d_W_greatestDivisor_6 : decode c_W_greatestDivisor 6 = .ok (.iconst 0, 1) := by decide +kernel
theorem d_W_greatestDivisor_7 : decode c_W_greatestDivisor 7 = .ok (.istore 8, 2) := by decide +kernel
theorem d_W_greatestDivisor_9 : decode c_W_greatestDivisor 9 = .ok (.iload 8, 2) := by decide +kernel
theorem d_W_greatestDivisor_11 : decode c_W_greatestDivisor 11 = .ok (.bipush 100, 2) := by decide +kernel
theorem d_W_greatestDivisor_13 : decode c_W_greatestDivisor 13 = .ok (.if_icmp .ge 31, 3) := by decide +kernel
theorem d_W_greatestDivisor_16 : decode c_W_greatestDivisor 16 = .ok (.lload 6, 2) := by decide +kernel
theorem d_W_greatestDivisor_18 : decode c_W_greatestDivisor 18 = .ok (.lconst 0, 1) := by decide +kernel
theorem d_W_greatestDivisor_19 : decode c_W_greatestDivisor 19 = .ok (.lcmp, 1) := by decide +kernel
theorem d_W_greatestDivisor_20 : decode c_W_greatestDivisor 20 = .ok (.ifCond .eq 24, 3) := by decide +kernel
theorem d_W_greatestDivisor_23 : decode c_W_greatestDivisor 23 = .ok (.lload 4, 2) := by decide +kernel
theorem d_W_greatestDivisor_25 : decode c_W_greatestDivisor 25 = .ok (.lload 6, 2) := by decide +kernel
theorem d_W_greatestDivisor_27 : decode c_W_greatestDivisor 27 = .ok (.lrem, 1) := by decide +kernel
theorem d_W_greatestDivisor_28 : decode c_W_greatestDivisor 28 = .ok (.lstore 9, 2) := by decide +kernel
theorem d_W_greatestDivisor_30 : decode c_W_greatestDivisor 30 = .ok (.lload 6, 2) := by decide +kernel
theorem d_W_greatestDivisor_32 : decode c_W_greatestDivisor 32 = .ok (.lstore 4, 2) := by decide +kernel
theorem d_W_greatestDivisor_34 : decode c_W_greatestDivisor 34 = .ok (.lload 9, 2) := by decide +kernel
theorem d_W_greatestDivisor_36 : decode c_W_greatestDivisor 36 = .ok (.lstore 6, 2) := by decide +kernel
theorem d_W_greatestDivisor_38 : decode c_W_greatestDivisor 38 = .ok (.iinc 8 1, 3) := by decide +kernel
theorem d_W_greatestDivisor_41 : decode c_W_greatestDivisor 41 = .ok (.goto (-32), 3) := by decide +kernel
theorem d_W_greatestDivisor_44 : decode c_W_greatestDivisor 44 = .ok (.lload 4, 2) := by decide +kernel
theorem d_W_greatestDivisor_46 : decode c_W_greatestDivisor 46 = .ok (.lreturn, 1) := by decide +kernel
theorem d_W_only_0 : decode c_W_only 0 = .ok (.iconst 1, 1) := by decide +kernel
theorem d_W_only_1 : decode c_W_only 1 = .ok (.iload_n 0, 1) := by decide +kernel
theorem d_W_only_2 : decode c_W_only 2 = .ok (.ishl, 1) := by decide +kernel
theorem d_W_only_3 : decode c_W_only 3 = .ok (.ireturn, 1) := by decide +kernel
theorem d_W_has_0 : decode c_W_has 0 = .ok (.iload_n 0, 1) := by decide +kernel
theorem d_W_has_1 : decode c_W_has 1 = .ok (.iload_n 1, 1) := by decide +kernel
theorem d_W_has_2 : decode c_W_has 2 = .ok (.invokestatic 122, 3) := by decide +kernel
theorem d_W_has_5 : decode c_W_has 5 = .ok (.iand, 1) := by decide +kernel
theorem d_W_has_6 : decode c_W_has 6 = .ok (.ifCond .eq 7, 3) := by decide +kernel
theorem d_W_has_9 : decode c_W_has 9 = .ok (.iconst 1, 1) := by decide +kernel
theorem d_W_has_10 : decode c_W_has 10 = .ok (.goto 4, 3) := by decide +kernel
theorem d_W_has_13 : decode c_W_has 13 = .ok (.iconst 0, 1) := by decide +kernel
theorem d_W_has_14 : decode c_W_has 14 = .ok (.ireturn, 1) := by decide +kernel
theorem d_W_weight_0 : decode c_W_weight 0 = .ok (.aload_n 0, 1) := by decide +kernel
theorem d_W_weight_1 : decode c_W_weight 1 = .ok (.iload_n 1, 1) := by decide +kernel
theorem d_W_weight_2 : decode c_W_weight 2 = .ok (.invokevirtual 59, 3) := by decide +kernel
theorem d_W_weight_5 : decode c_W_weight 5 = .ok (.ifCond .eq 11, 3) := by decide +kernel
theorem d_W_weight_8 : decode c_W_weight 8 = .ok (.aload_n 0, 1) := by decide +kernel
theorem d_W_weight_9 : decode c_W_weight 9 = .ok (.iload_n 2, 1) := by decide +kernel
theorem d_W_weight_10 : decode c_W_weight 10 = .ok (.invokevirtual 59, 3) := by decide +kernel
theorem d_W_weight_13 : decode c_W_weight 13 = .ok (.ifCond .ne 5, 3) := by decide +kernel
theorem d_W_weight_16 : decode c_W_weight 16 = .ok (.iconst (-1), 1) := by decide +kernel
theorem d_W_weight_17 : decode c_W_weight 17 = .ok (.ireturn, 1) := by decide +kernel
theorem d_W_weight_18 : decode c_W_weight 18 = .ok (.iload_n 3, 1) := by decide +kernel
theorem d_W_weight_19 : decode c_W_weight 19 = .ok (.ifCond .lt 8, 3) := by decide +kernel
theorem d_W_weight_22 : decode c_W_weight 22 = .ok (.iload_n 3, 1) := by decide +kernel
theorem d_W_weight_23 : decode c_W_weight 23 = .ok (.iconst 2, 1) := by decide +kernel
theorem d_W_weight_24 : decode c_W_weight 24 = .ok (.if_icmp .le 6, 3) := by decide +kernel
theorem d_W_weight_27 : decode c_W_weight 27 = .ok (.bipush (-2), 2) := by decide +kernel
theorem d_W_weight_29 : decode c_W_weight 29 = .ok (.ireturn, 1) := by decide +kernel
theorem d_W_weight_30 : decode c_W_weight 30 = .ok (.aload_n 0, 1) := by decide +kernel
theorem d_W_weight_31 : decode c_W_weight 31 = .ok (.getfield 10, 3) := by decide +kernel
theorem d_W_weight_34 : decode c_W_weight 34 = .ok (.getfield 63, 3) := by decide +kernel
theorem d_W_weight_37 : decode c_W_weight 37 = .ok (.iload_n 1, 1) := by decide +kernel
theorem d_W_weight_38 : decode c_W_weight 38 = .ok (.aaload, 1) := by decide +kernel
theorem d_W_weight_39 : decode c_W_weight 39 = .ok (.iload_n 2, 1) := by decide +kernel
theorem d_W_weight_40 : decode c_W_weight 40 = .ok (.iaload, 1) := by decide +kernel
theorem d_W_weight_41 : decode c_W_weight 41 = .ok (.istore 4, 2) := by decide +kernel
theorem d_W_weight_43 : decode c_W_weight 43 = .ok (.aload_n 0, 1) := by decide +kernel
theorem d_W_weight_44 : decode c_W_weight 44 = .ok (.getfield 10, 3) := by decide +kernel
theorem d_W_weight_47 : decode c_W_weight 47 = .ok (.getfield 63, 3) := by decide +kernel
theorem d_W_weight_50 : decode c_W_weight 50 = .ok (.iload_n 1, 1) := by decide +kernel
theorem d_W_weight_51 : decode c_W_weight 51 = .ok (.aaload, 1) := by decide +kernel
theorem d_W_weight_52 : decode c_W_weight 52 = .ok (.iload_n 2, 1) := by decide +kernel
theorem d_W_weight_53 : decode c_W_weight 53 = .ok (.iload_n 3, 1) := by decide +kernel
theorem d_W_weight_54 : decode c_W_weight 54 = .ok (.iastore, 1) := by decide +kernel
theorem d_W_weight_55 : decode c_W_weight 55 = .ok (.aload_n 0, 1) := by decide +kernel
theorem d_W_weight_56 : decode c_W_weight 56 = .ok (.invokevirtual 56, 3) := by decide +kernel
theorem d_W_weight_59 : decode c_W_weight 59 = .ok (.iload 4, 2) := by decide +kernel
theorem d_W_weight_61 : decode c_W_weight 61 = .ok (.ireturn, 1) := by decide +kernel
theorem d_W_isNode_0 : decode c_W_isNode 0 = .ok (.iload_n 1, 1) := by decide +kernel
theorem d_W_isNode_1 : decode c_W_isNode 1 = .ok (.ifCond .lt 18, 3) := by decide +kernel
theorem d_W_isNode_4 : decode c_W_isNode 4 = .ok (.iload_n 1, 1) := by decide +kernel
theorem d_W_isNode_5 : decode c_W_isNode 5 = .ok (.aload_n 0, 1) := by decide +kernel
theorem d_W_isNode_6 : decode c_W_isNode 6 = .ok (.getfield 10, 3) := by decide +kernel
theorem d_W_isNode_9 : decode c_W_isNode 9 = .ok (.getfield 48, 3) := by decide +kernel
theorem d_W_isNode_12 : decode c_W_isNode 12 = .ok (.if_icmp .ge 7, 3) := by decide +kernel
theorem d_W_isNode_15 : decode c_W_isNode 15 = .ok (.iconst 1, 1) := by decide +kernel
theorem d_W_isNode_16 : decode c_W_isNode 16 = .ok (.goto 4, 3) := by decide +kernel
theorem d_W_isNode_19 : decode c_W_isNode 19 = .ok (.iconst 0, 1) := by decide +kernel
theorem d_W_isNode_20 : decode c_W_isNode 20 = .ok (.ireturn, 1) := by decide +kernel
theorem d_W_jump_0 : decode c_W_jump 0 = .ok (.aload_n 0, 1) := by decide +kernel
theorem d_W_jump_1 : decode c_W_jump 1 = .ok (.iload_n 1, 1) := by decide +kernel
theorem d_W_jump_2 : decode c_W_jump 2 = .ok (.invokevirtual 59, 3) := by decide +kernel
theorem d_W_jump_5 : decode c_W_jump 5 = .ok (.ifCond .ne 5, 3) := by decide +kernel
theorem d_W_jump_8 : decode c_W_jump 8 = .ok (.iconst (-1), 1) := by decide +kernel
theorem d_W_jump_9 : decode c_W_jump 9 = .ok (.ireturn, 1) := by decide +kernel
theorem d_W_jump_10 : decode c_W_jump 10 = .ok (.iload_n 2, 1) := by decide +kernel
theorem d_W_jump_11 : decode c_W_jump 11 = .ok (.ifCond .lt 8, 3) := by decide +kernel
theorem d_W_jump_14 : decode c_W_jump 14 = .ok (.iload_n 2, 1) := by decide +kernel
theorem d_W_jump_15 : decode c_W_jump 15 = .ok (.iconst 2, 1) := by decide +kernel
theorem d_W_jump_16 : decode c_W_jump 16 = .ok (.if_icmp .le 6, 3) := by decide +kernel
theorem d_W_jump_19 : decode c_W_jump 19 = .ok (.bipush (-2), 2) := by decide +kernel
theorem d_W_jump_21 : decode c_W_jump 21 = .ok (.ireturn, 1) := by decide +kernel
theorem d_W_jump_22 : decode c_W_jump 22 = .ok (.aload_n 0, 1) := by decide +kernel
theorem d_W_jump_23 : decode c_W_jump 23 = .ok (.getfield 10, 3) := by decide +kernel
theorem d_W_jump_26 : decode c_W_jump 26 = .ok (.getfield 67, 3) := by decide +kernel
theorem d_W_jump_29 : decode c_W_jump 29 = .ok (.iload_n 1, 1) := by decide +kernel
theorem d_W_jump_30 : decode c_W_jump 30 = .ok (.iaload, 1) := by decide +kernel
theorem d_W_jump_31 : decode c_W_jump 31 = .ok (.istore_n 3, 1) := by decide +kernel
theorem d_W_jump_32 : decode c_W_jump 32 = .ok (.aload_n 0, 1) := by decide +kernel
theorem d_W_jump_33 : decode c_W_jump 33 = .ok (.getfield 10, 3) := by decide +kernel
theorem d_W_jump_36 : decode c_W_jump 36 = .ok (.getfield 67, 3) := by decide +kernel
theorem d_W_jump_39 : decode c_W_jump 39 = .ok (.iload_n 1, 1) := by decide +kernel
theorem d_W_jump_40 : decode c_W_jump 40 = .ok (.iload_n 2, 1) := by decide +kernel
theorem d_W_jump_41 : decode c_W_jump 41 = .ok (.iastore, 1) := by decide +kernel
theorem d_W_jump_42 : decode c_W_jump 42 = .ok (.aload_n 0, 1) := by decide +kernel
theorem d_W_jump_43 : decode c_W_jump 43 = .ok (.invokevirtual 56, 3) := by decide +kernel
theorem d_W_jump_46 : decode c_W_jump 46 = .ok (.iload_n 3, 1) := by decide +kernel
theorem d_W_jump_47 : decode c_W_jump 47 = .ok (.ireturn, 1) := by decide +kernel
theorem d_W_keep_0 : decode c_W_keep 0 = .ok (.iload_n 2, 1) := by decide +kernel
theorem d_W_keep_1 : decode c_W_keep 1 = .ok (.iconst 1, 1) := by decide +kernel
theorem d_W_keep_2 : decode c_W_keep 2 = .ok (.if_icmp .lt 17, 3) := by decide +kernel
theorem d_W_keep_5 : decode c_W_keep 5 = .ok (.iload_n 2, 1) := by decide +kernel
theorem d_W_keep_6 : decode c_W_keep 6 = .ok (.iconst 4, 1) := by decide +kernel
theorem d_W_keep_7 : decode c_W_keep 7 = .ok (.if_icmp .gt 12, 3) := by decide +kernel
theorem d_W_keep_10 : decode c_W_keep 10 = .ok (.iload_n 1, 1) := by decide +kernel
theorem d_W_keep_11 : decode c_W_keep 11 = .ok (.ifCond .lt 8, 3) := by decide +kernel
theorem d_W_keep_14 : decode c_W_keep 14 = .ok (.iload_n 1, 1) := by decide +kernel
theorem d_W_keep_15 : decode c_W_keep 15 = .ok (.iload_n 2, 1) := by decide +kernel
theorem d_W_keep_16 : decode c_W_keep 16 = .ok (.if_icmp .le 6, 3) := by decide +kernel
theorem d_W_keep_19 : decode c_W_keep 19 = .ok (.bipush (-2), 2) := by decide +kernel
theorem d_W_keep_21 : decode c_W_keep 21 = .ok (.ireturn, 1) := by decide +kernel
theorem d_W_keep_22 : decode c_W_keep 22 = .ok (.aload_n 0, 1) := by decide +kernel
theorem d_W_keep_23 : decode c_W_keep 23 = .ok (.getfield 10, 3) := by decide +kernel
theorem d_W_keep_26 : decode c_W_keep 26 = .ok (.iload_n 1, 1) := by decide +kernel
theorem d_W_keep_27 : decode c_W_keep 27 = .ok (.putfield 71, 3) := by decide +kernel
theorem d_W_keep_30 : decode c_W_keep 30 = .ok (.aload_n 0, 1) := by decide +kernel
theorem d_W_keep_31 : decode c_W_keep 31 = .ok (.getfield 10, 3) := by decide +kernel
theorem d_W_keep_34 : decode c_W_keep 34 = .ok (.iload_n 2, 1) := by decide +kernel
theorem d_W_keep_35 : decode c_W_keep 35 = .ok (.putfield 74, 3) := by decide +kernel
theorem d_W_keep_38 : decode c_W_keep 38 = .ok (.aload_n 0, 1) := by decide +kernel
theorem d_W_keep_39 : decode c_W_keep 39 = .ok (.invokevirtual 56, 3) := by decide +kernel
theorem d_W_keep_42 : decode c_W_keep 42 = .ok (.iconst 1, 1) := by decide +kernel
theorem d_W_keep_43 : decode c_W_keep 43 = .ok (.ireturn, 1) := by decide +kernel
theorem d_W_clear_0 : decode c_W_clear 0 = .ok (.aload_n 0, 1) := by decide +kernel
theorem d_W_clear_1 : decode c_W_clear 1 = .ok (.getfield 10, 3) := by decide +kernel
theorem d_W_clear_4 : decode c_W_clear 4 = .ok (.getfield 48, 3) := by decide +kernel
theorem d_W_clear_7 : decode c_W_clear 7 = .ok (.istore_n 1, 1) := by decide +kernel
theorem d_W_clear_8 : decode c_W_clear 8 = .ok (.aload_n 0, 1) := by decide +kernel
theorem d_W_clear_9 : decode c_W_clear 9 = .ok (.getfield 10, 3) := by decide +kernel
theorem d_W_clear_12 : decode c_W_clear 12 = .ok (.iconst 0, 1) := by decide +kernel
theorem d_W_clear_13 : decode c_W_clear 13 = .ok (.putfield 48, 3) := by decide +kernel
theorem d_W_clear_16 : decode c_W_clear 16 = .ok (.aload_n 0, 1) := by decide +kernel
theorem d_W_clear_17 : decode c_W_clear 17 = .ok (.invokevirtual 56, 3) := by decide +kernel
theorem d_W_clear_20 : decode c_W_clear 20 = .ok (.iload_n 1, 1) := by decide +kernel
theorem d_W_clear_21 : decode c_W_clear 21 = .ok (.ireturn, 1) := by decide +kernel
theorem d_W_row_0 : decode c_W_row 0 = .ok (.aload_n 0, 1) := by decide +kernel
theorem d_W_row_1 : decode c_W_row 1 = .ok (.iload_n 1, 1) := by decide +kernel
theorem d_W_row_2 : decode c_W_row 2 = .ok (.invokevirtual 59, 3) := by decide +kernel
theorem d_W_row_5 : decode c_W_row 5 = .ok (.ifCond .eq 11, 3) := by decide +kernel
theorem d_W_row_8 : decode c_W_row 8 = .ok (.aload_n 0, 1) := by decide +kernel
theorem d_W_row_9 : decode c_W_row 9 = .ok (.iload_n 2, 1) := by decide +kernel
theorem d_W_row_10 : decode c_W_row 10 = .ok (.invokevirtual 59, 3) := by decide +kernel
theorem d_W_row_13 : decode c_W_row 13 = .ok (.ifCond .ne 5, 3) := by decide +kernel
theorem d_W_row_16 : decode c_W_row 16 = .ok (.iconst (-1), 1) := by decide +kernel
theorem d_W_row_17 : decode c_W_row 17 = .ok (.ireturn, 1) := by decide +kernel
theorem d_W_row_18 : decode c_W_row 18 = .ok (.aload_n 0, 1) := by decide +kernel
theorem d_W_row_19 : decode c_W_row 19 = .ok (.getfield 19, 3) := by decide +kernel
theorem d_W_row_22 : decode c_W_row 22 = .ok (.getfield 77, 3) := by decide +kernel
theorem d_W_row_25 : decode c_W_row 25 = .ok (.iload_n 1, 1) := by decide +kernel
theorem d_W_row_26 : decode c_W_row 26 = .ok (.aaload, 1) := by decide +kernel
theorem d_W_row_27 : decode c_W_row 27 = .ok (.iload_n 2, 1) := by decide +kernel
theorem d_W_row_28 : decode c_W_row 28 = .ok (.iaload, 1) := by decide +kernel
theorem d_W_row_29 : decode c_W_row 29 = .ok (.ireturn, 1) := by decide +kernel
theorem d_W_total_0 : decode c_W_total 0 = .ok (.aload_n 0, 1) := by decide +kernel
theorem d_W_total_1 : decode c_W_total 1 = .ok (.iload_n 1, 1) := by decide +kernel
theorem d_W_total_2 : decode c_W_total 2 = .ok (.invokevirtual 59, 3) := by decide +kernel
theorem d_W_total_5 : decode c_W_total 5 = .ok (.ifCond .ne 5, 3) := by decide +kernel
theorem d_W_total_8 : decode c_W_total 8 = .ok (.iconst (-1), 1) := by decide +kernel
theorem d_W_total_9 : decode c_W_total 9 = .ok (.ireturn, 1) := by decide +kernel
theorem d_W_total_10 : decode c_W_total 10 = .ok (.aload_n 0, 1) := by decide +kernel
theorem d_W_total_11 : decode c_W_total 11 = .ok (.getfield 19, 3) := by decide +kernel
theorem d_W_total_14 : decode c_W_total 14 = .ok (.getfield 80, 3) := by decide +kernel
theorem d_W_total_17 : decode c_W_total 17 = .ok (.iload_n 1, 1) := by decide +kernel
theorem d_W_total_18 : decode c_W_total 18 = .ok (.iaload, 1) := by decide +kernel
theorem d_W_total_19 : decode c_W_total 19 = .ok (.ireturn, 1) := by decide +kernel
theorem d_W_closed_0 : decode c_W_closed 0 = .ok (.aload_n 0, 1) := by decide +kernel
theorem d_W_closed_1 : decode c_W_closed 1 = .ok (.getfield 26, 3) := by decide +kernel
theorem d_W_closed_4 : decode c_W_closed 4 = .ok (.getfield 83, 3) := by decide +kernel
theorem d_W_closed_7 : decode c_W_closed 7 = .ok (.ireturn, 1) := by decide +kernel
theorem d_W_closedOf_0 : decode c_W_closedOf 0 = .ok (.aload_n 0, 1) := by decide +kernel
theorem d_W_closedOf_1 : decode c_W_closedOf 1 = .ok (.iload_n 1, 1) := by decide +kernel
theorem d_W_closedOf_2 : decode c_W_closedOf 2 = .ok (.invokevirtual 59, 3) := by decide +kernel
theorem d_W_closedOf_5 : decode c_W_closedOf 5 = .ok (.ifCond .ne 5, 3) := by decide +kernel
theorem d_W_closedOf_8 : decode c_W_closedOf 8 = .ok (.iconst (-1), 1) := by decide +kernel
theorem d_W_closedOf_9 : decode c_W_closedOf 9 = .ok (.ireturn, 1) := by decide +kernel
theorem d_W_closedOf_10 : decode c_W_closedOf 10 = .ok (.aload_n 0, 1) := by decide +kernel
theorem d_W_closedOf_11 : decode c_W_closedOf 11 = .ok (.getfield 26, 3) := by decide +kernel
theorem d_W_closedOf_14 : decode c_W_closedOf 14 = .ok (.getfield 86, 3) := by decide +kernel
theorem d_W_closedOf_17 : decode c_W_closedOf 17 = .ok (.iload_n 1, 1) := by decide +kernel
theorem d_W_closedOf_18 : decode c_W_closedOf 18 = .ok (.iaload, 1) := by decide +kernel
theorem d_W_closedOf_19 : decode c_W_closedOf 19 = .ok (.ireturn, 1) := by decide +kernel
theorem d_W_period_0 : decode c_W_period 0 = .ok (.aload_n 0, 1) := by decide +kernel
theorem d_W_period_1 : decode c_W_period 1 = .ok (.iload_n 1, 1) := by decide +kernel
theorem d_W_period_2 : decode c_W_period 2 = .ok (.invokevirtual 89, 3) := by decide +kernel
theorem d_W_period_5 : decode c_W_period 5 = .ok (.ifCond .ne 5, 3) := by decide +kernel
theorem d_W_period_8 : decode c_W_period 8 = .ok (.iconst (-1), 1) := by decide +kernel
theorem d_W_period_9 : decode c_W_period 9 = .ok (.ireturn, 1) := by decide +kernel
theorem d_W_period_10 : decode c_W_period 10 = .ok (.aload_n 0, 1) := by decide +kernel
theorem d_W_period_11 : decode c_W_period 11 = .ok (.getfield 19, 3) := by decide +kernel
theorem d_W_period_14 : decode c_W_period 14 = .ok (.aload_n 0, 1) := by decide +kernel
theorem d_W_period_15 : decode c_W_period 15 = .ok (.getfield 26, 3) := by decide +kernel
theorem d_W_period_18 : decode c_W_period 18 = .ok (.getfield 92, 3) := by decide +kernel
theorem d_W_period_21 : decode c_W_period 21 = .ok (.iload_n 1, 1) := by decide +kernel
theorem d_W_period_22 : decode c_W_period 22 = .ok (.iaload, 1) := by decide +kernel
theorem d_W_period_23 : decode c_W_period 23 = .ok (.invokevirtual 95, 3) := by decide +kernel
theorem d_W_period_26 : decode c_W_period 26 = .ok (.ireturn, 1) := by decide +kernel
theorem d_W_isSet_0 : decode c_W_isSet 0 = .ok (.iload_n 1, 1) := by decide +kernel
theorem d_W_isSet_1 : decode c_W_isSet 1 = .ok (.ifCond .lt 18, 3) := by decide +kernel
theorem d_W_isSet_4 : decode c_W_isSet 4 = .ok (.iload_n 1, 1) := by decide +kernel
theorem d_W_isSet_5 : decode c_W_isSet 5 = .ok (.aload_n 0, 1) := by decide +kernel
theorem d_W_isSet_6 : decode c_W_isSet 6 = .ok (.getfield 26, 3) := by decide +kernel
theorem d_W_isSet_9 : decode c_W_isSet 9 = .ok (.getfield 83, 3) := by decide +kernel
theorem d_W_isSet_12 : decode c_W_isSet 12 = .ok (.if_icmp .ge 7, 3) := by decide +kernel
theorem d_W_isSet_15 : decode c_W_isSet 15 = .ok (.iconst 1, 1) := by decide +kernel
theorem d_W_isSet_16 : decode c_W_isSet 16 = .ok (.goto 4, 3) := by decide +kernel
theorem d_W_isSet_19 : decode c_W_isSet 19 = .ok (.iconst 0, 1) := by decide +kernel
theorem d_W_isSet_20 : decode c_W_isSet 20 = .ok (.ireturn, 1) := by decide +kernel
theorem d_W_rank_0 : decode c_W_rank 0 = .ok (.aload_n 0, 1) := by decide +kernel
theorem d_W_rank_1 : decode c_W_rank 1 = .ok (.iload_n 1, 1) := by decide +kernel
theorem d_W_rank_2 : decode c_W_rank 2 = .ok (.invokevirtual 59, 3) := by decide +kernel
theorem d_W_rank_5 : decode c_W_rank 5 = .ok (.ifCond .ne 7, 3) := by decide +kernel
theorem d_W_rank_8 : decode c_W_rank 8 = .ok (.ldc2_w 99, 3) := by decide +kernel
theorem d_W_rank_11 : decode c_W_rank 11 = .ok (.lreturn, 1) := by decide +kernel
theorem d_W_rank_12 : decode c_W_rank 12 = .ok (.iload_n 2, 1) := by decide +kernel
theorem d_W_rank_13 : decode c_W_rank 13 = .ok (.invokestatic 101, 3) := by decide +kernel
theorem d_W_rank_16 : decode c_W_rank 16 = .ok (.ifCond .ne 7, 3) := by decide +kernel
theorem d_W_rank_19 : decode c_W_rank 19 = .ok (.ldc2_w 104, 3) := by decide +kernel
theorem d_W_rank_22 : decode c_W_rank 22 = .ok (.lreturn, 1) := by decide +kernel
theorem d_W_rank_23 : decode c_W_rank 23 = .ok (.aload_n 0, 1) := by decide +kernel
theorem d_W_rank_24 : decode c_W_rank 24 = .ok (.getfield 26, 3) := by decide +kernel
theorem d_W_rank_27 : decode c_W_rank 27 = .ok (.getfield 83, 3) := by decide +kernel
theorem d_W_rank_30 : decode c_W_rank 30 = .ok (.iconst 1, 1) := by decide +kernel
theorem d_W_rank_31 : decode c_W_rank 31 = .ok (.if_icmp .eq 7, 3) := by decide +kernel
theorem d_W_rank_34 : decode c_W_rank 34 = .ok (.ldc2_w 106, 3) := by decide +kernel
theorem d_W_rank_37 : decode c_W_rank 37 = .ok (.lreturn, 1) := by decide +kernel
theorem d_W_rank_38 : decode c_W_rank 38 = .ok (.aload_n 0, 1) := by decide +kernel
theorem d_W_rank_39 : decode c_W_rank 39 = .ok (.aload_n 0, 1) := by decide +kernel
theorem d_W_rank_40 : decode c_W_rank 40 = .ok (.getfield 26, 3) := by decide +kernel
theorem d_W_rank_43 : decode c_W_rank 43 = .ok (.getfield 108, 3) := by decide +kernel
theorem d_W_rank_46 : decode c_W_rank 46 = .ok (.iconst 0, 1) := by decide +kernel
theorem d_W_rank_47 : decode c_W_rank 47 = .ok (.iaload, 1) := by decide +kernel
theorem d_W_rank_48 : decode c_W_rank 48 = .ok (.invokevirtual 111, 3) := by decide +kernel
theorem d_W_rank_51 : decode c_W_rank 51 = .ok (.lstore_n 3, 1) := by decide +kernel
theorem d_W_rank_52 : decode c_W_rank 52 = .ok (.aload_n 0, 1) := by decide +kernel
theorem d_W_rank_53 : decode c_W_rank 53 = .ok (.getfield 44, 3) := by decide +kernel
theorem d_W_rank_56 : decode c_W_rank 56 = .ok (.iload_n 1, 1) := by decide +kernel
theorem d_W_rank_57 : decode c_W_rank 57 = .ok (.laload, 1) := by decide +kernel
theorem d_W_rank_58 : decode c_W_rank 58 = .ok (.lload_n 3, 1) := by decide +kernel
theorem d_W_rank_59 : decode c_W_rank 59 = .ok (.iload_n 2, 1) := by decide +kernel
theorem d_W_rank_60 : decode c_W_rank 60 = .ok (.invokestatic 115, 3) := by decide +kernel
theorem d_W_rank_63 : decode c_W_rank 63 = .ok (.lreturn, 1) := by decide +kernel
theorem d_W_isPart_0 : decode c_W_isPart 0 = .ok (.iload_n 0, 1) := by decide +kernel
theorem d_W_isPart_1 : decode c_W_isPart 1 = .ok (.ifCond .eq 8, 3) := by decide +kernel
theorem d_W_isPart_4 : decode c_W_isPart 4 = .ok (.iload_n 0, 1) := by decide +kernel
theorem d_W_isPart_5 : decode c_W_isPart 5 = .ok (.iconst 1, 1) := by decide +kernel
theorem d_W_isPart_6 : decode c_W_isPart 6 = .ok (.if_icmp .ne 7, 3) := by decide +kernel
theorem d_W_isPart_9 : decode c_W_isPart 9 = .ok (.iconst 1, 1) := by decide +kernel
theorem d_W_isPart_10 : decode c_W_isPart 10 = .ok (.goto 4, 3) := by decide +kernel
theorem d_W_isPart_13 : decode c_W_isPart 13 = .ok (.iconst 0, 1) := by decide +kernel
theorem d_W_isPart_14 : decode c_W_isPart 14 = .ok (.ireturn, 1) := by decide +kernel
theorem d_W_fillShares_0 : decode c_W_fillShares 0 = .ok (.lconst 0, 1) := by decide +kernel
theorem d_W_fillShares_1 : decode c_W_fillShares 1 = .ok (.lstore_n 2, 1) := by decide +kernel
theorem d_W_fillShares_2 : decode c_W_fillShares 2 = .ok (.iconst 0, 1) := by decide +kernel
theorem d_W_fillShares_3 : decode c_W_fillShares 3 = .ok (.istore 4, 2) := by decide +kernel
theorem d_W_fillShares_5 : decode c_W_fillShares 5 = .ok (.iload 4, 2) := by decide +kernel
theorem d_W_fillShares_7 : decode c_W_fillShares 7 = .ok (.aload_n 0, 1) := by decide +kernel
theorem d_W_fillShares_8 : decode c_W_fillShares 8 = .ok (.getfield 10, 3) := by decide +kernel
theorem d_W_fillShares_11 : decode c_W_fillShares 11 = .ok (.getfield 48, 3) := by decide +kernel
theorem d_W_fillShares_14 : decode c_W_fillShares 14 = .ok (.if_icmp .ge 82, 3) := by decide +kernel
theorem d_W_fillShares_17 : decode c_W_fillShares 17 = .ok (.aload_n 0, 1) := by decide +kernel
theorem d_W_fillShares_18 : decode c_W_fillShares 18 = .ok (.getfield 44, 3) := by decide +kernel
theorem d_W_fillShares_21 : decode c_W_fillShares 21 = .ok (.iload 4, 2) := by decide +kernel
theorem d_W_fillShares_23 : decode c_W_fillShares 23 = .ok (.lconst 0, 1) := by decide +kernel
theorem d_W_fillShares_24 : decode c_W_fillShares 24 = .ok (.lastore, 1) := by decide +kernel
theorem d_W_fillShares_25 : decode c_W_fillShares 25 = .ok (.iload_n 1, 1) := by decide +kernel
theorem d_W_fillShares_26 : decode c_W_fillShares 26 = .ok (.iload 4, 2) := by decide +kernel
theorem d_W_fillShares_28 : decode c_W_fillShares 28 = .ok (.invokestatic 176, 3) := by decide +kernel
theorem d_W_fillShares_31 : decode c_W_fillShares 31 = .ok (.ifCond .eq 49, 3) := by decide +kernel
theorem d_W_fillShares_34 : decode c_W_fillShares 34 = .ok (.aload_n 0, 1) := by decide +kernel
theorem d_W_fillShares_35 : decode c_W_fillShares 35 = .ok (.getfield 33, 3) := by decide +kernel
theorem d_W_fillShares_38 : decode c_W_fillShares 38 = .ok (.aload_n 0, 1) := by decide +kernel
theorem d_W_fillShares_39 : decode c_W_fillShares 39 = .ok (.getfield 19, 3) := by decide +kernel
theorem d_W_fillShares_42 : decode c_W_fillShares 42 = .ok (.iload_n 1, 1) := by decide +kernel
theorem d_W_fillShares_43 : decode c_W_fillShares 43 = .ok (.iload 4, 2) := by decide +kernel
theorem d_W_fillShares_45 : decode c_W_fillShares 45 = .ok (.invokestatic 122, 3) := by decide +kernel
theorem d_W_fillShares_48 : decode c_W_fillShares 48 = .ok (.iconst (-1), 1) := by decide +kernel
theorem d_W_fillShares_49 : decode c_W_fillShares 49 = .ok (.ixor, 1) := by decide +kernel
theorem d_W_fillShares_50 : decode c_W_fillShares 50 = .ok (.iand, 1) := by decide +kernel
theorem d_W_fillShares_51 : decode c_W_fillShares 51 = .ok (.invokevirtual 136, 3) := by decide +kernel
theorem d_W_fillShares_54 : decode c_W_fillShares 54 = .ok (.aload_n 0, 1) := by decide +kernel
theorem d_W_fillShares_55 : decode c_W_fillShares 55 = .ok (.getfield 44, 3) := by decide +kernel
theorem d_W_fillShares_58 : decode c_W_fillShares 58 = .ok (.iload 4, 2) := by decide +kernel
theorem d_W_fillShares_60 : decode c_W_fillShares 60 = .ok (.aload_n 0, 1) := by decide +kernel
theorem d_W_fillShares_61 : decode c_W_fillShares 61 = .ok (.getfield 19, 3) := by decide +kernel
theorem d_W_fillShares_64 : decode c_W_fillShares 64 = .ok (.getfield 80, 3) := by decide +kernel
theorem d_W_fillShares_67 : decode c_W_fillShares 67 = .ok (.iload 4, 2) := by decide +kernel
theorem d_W_fillShares_69 : decode c_W_fillShares 69 = .ok (.iaload, 1) := by decide +kernel
theorem d_W_fillShares_70 : decode c_W_fillShares 70 = .ok (.i2l, 1) := by decide +kernel
theorem d_W_fillShares_71 : decode c_W_fillShares 71 = .ok (.aload_n 0, 1) := by decide +kernel
theorem d_W_fillShares_72 : decode c_W_fillShares 72 = .ok (.getfield 33, 3) := by decide +kernel
theorem d_W_fillShares_75 : decode c_W_fillShares 75 = .ok (.invokevirtual 140, 3) := by decide +kernel
theorem d_W_fillShares_78 : decode c_W_fillShares 78 = .ok (.lmul, 1) := by decide +kernel
theorem d_W_fillShares_79 : decode c_W_fillShares 79 = .ok (.lastore, 1) := by decide +kernel
theorem d_W_fillShares_80 : decode c_W_fillShares 80 = .ok (.lload_n 2, 1) := by decide +kernel
theorem d_W_fillShares_81 : decode c_W_fillShares 81 = .ok (.aload_n 0, 1) := by decide +kernel
theorem d_W_fillShares_82 : decode c_W_fillShares 82 = .ok (.getfield 44, 3) := by decide +kernel
theorem d_W_fillShares_85 : decode c_W_fillShares 85 = .ok (.iload 4, 2) := by decide +kernel
theorem d_W_fillShares_87 : decode c_W_fillShares 87 = .ok (.laload, 1) := by decide +kernel
theorem d_W_fillShares_88 : decode c_W_fillShares 88 = .ok (.ladd, 1) := by decide +kernel
theorem d_W_fillShares_89 : decode c_W_fillShares 89 = .ok (.lstore_n 2, 1) := by decide +kernel
theorem d_W_fillShares_90 : decode c_W_fillShares 90 = .ok (.iinc 4 1, 3) := by decide +kernel
theorem d_W_fillShares_93 : decode c_W_fillShares 93 = .ok (.goto (-88), 3) := by decide +kernel
theorem d_W_fillShares_96 : decode c_W_fillShares 96 = .ok (.lload_n 2, 1) := by decide +kernel
theorem d_W_fillShares_97 : decode c_W_fillShares 97 = .ok (.lreturn, 1) := by decide +kernel
theorem d_W_fraction_0 : decode c_W_fraction 0 = .ok (.iload 4, 2) := by decide +kernel
theorem d_W_fraction_2 : decode c_W_fraction 2 = .ok (.ifCond .ne 7, 3) := by decide +kernel
theorem d_W_fraction_5 : decode c_W_fraction 5 = .ok (.lload_n 0, 1) := by decide +kernel
theorem d_W_fraction_6 : decode c_W_fraction 6 = .ok (.goto 4, 3) := by decide +kernel
theorem d_W_fraction_9 : decode c_W_fraction 9 = .ok (.lload_n 2, 1) := by decide +kernel
theorem d_W_fraction_10 : decode c_W_fraction 10 = .ok (.lstore 5, 2) := by decide +kernel
theorem d_W_fraction_12 : decode c_W_fraction 12 = .ok (.lload_n 0, 1) := by decide +kernel
theorem d_W_fraction_13 : decode c_W_fraction 13 = .ok (.lload_n 2, 1) := by decide +kernel
theorem d_W_fraction_14 : decode c_W_fraction 14 = .ok (.invokestatic 184, 3) := by decide +kernel
theorem d_W_fraction_17 : decode c_W_fraction 17 = .ok (.lstore 7, 2) := by decide +kernel
theorem d_W_fraction_19 : decode c_W_fraction 19 = .ok (.lload 7, 2) := by decide +kernel
theorem d_W_fraction_21 : decode c_W_fraction 21 = .ok (.lconst 0, 1) := by decide +kernel
theorem d_W_fraction_22 : decode c_W_fraction 22 = .ok (.lcmp, 1) := by decide +kernel
theorem d_W_fraction_23 : decode c_W_fraction 23 = .ok (.ifCond .ne 8, 3) := by decide +kernel
theorem d_W_fraction_26 : decode c_W_fraction 26 = .ok (.lload 5, 2) := by decide +kernel
theorem d_W_fraction_28 : decode c_W_fraction 28 = .ok (.goto 8, 3) := by decide +kernel
theorem d_W_fraction_31 : decode c_W_fraction 31 = .ok (.lload 5, 2) := by decide +kernel
theorem d_W_fraction_33 : decode c_W_fraction 33 = .ok (.lload 7, 2) := by decide +kernel
theorem d_W_fraction_35 : decode c_W_fraction 35 = .ok (.ldiv, 1) := by decide +kernel
theorem d_W_fraction_36 : decode c_W_fraction 36 = .ok (.lreturn, 1) := by decide +kernel
theorem d_W_place_0 : decode c_W_place 0 = .ok (.aload_n 0, 1) := by decide +kernel
theorem d_W_place_1 : decode c_W_place 1 = .ok (.iload_n 1, 1) := by decide +kernel
theorem d_W_place_2 : decode c_W_place 2 = .ok (.invokevirtual 59, 3) := by decide +kernel
theorem d_W_place_5 : decode c_W_place 5 = .ok (.ifCond .ne 5, 3) := by decide +kernel
theorem d_W_place_8 : decode c_W_place 8 = .ok (.iconst (-1), 1) := by decide +kernel
theorem d_W_place_9 : decode c_W_place 9 = .ok (.ireturn, 1) := by decide +kernel
theorem d_W_place_10 : decode c_W_place 10 = .ok (.aload_n 0, 1) := by decide +kernel
theorem d_W_place_11 : decode c_W_place 11 = .ok (.getfield 26, 3) := by decide +kernel
theorem d_W_place_14 : decode c_W_place 14 = .ok (.getfield 83, 3) := by decide +kernel
theorem d_W_place_17 : decode c_W_place 17 = .ok (.iconst 1, 1) := by decide +kernel
theorem d_W_place_18 : decode c_W_place 18 = .ok (.if_icmp .eq 6, 3) := by decide +kernel
theorem d_W_place_21 : decode c_W_place 21 = .ok (.bipush (-3), 2) := by decide +kernel
theorem d_W_place_23 : decode c_W_place 23 = .ok (.ireturn, 1) := by decide +kernel
theorem d_W_place_24 : decode c_W_place 24 = .ok (.aload_n 0, 1) := by decide +kernel
theorem d_W_place_25 : decode c_W_place 25 = .ok (.aload_n 0, 1) := by decide +kernel
theorem d_W_place_26 : decode c_W_place 26 = .ok (.getfield 26, 3) := by decide +kernel
theorem d_W_place_29 : decode c_W_place 29 = .ok (.getfield 108, 3) := by decide +kernel
theorem d_W_place_32 : decode c_W_place 32 = .ok (.iconst 0, 1) := by decide +kernel
theorem d_W_place_33 : decode c_W_place 33 = .ok (.iaload, 1) := by decide +kernel
theorem d_W_place_34 : decode c_W_place 34 = .ok (.invokevirtual 111, 3) := by decide +kernel
theorem d_W_place_37 : decode c_W_place 37 = .ok (.pop2, 1) := by decide +kernel
theorem d_W_place_38 : decode c_W_place 38 = .ok (.iconst 0, 1) := by decide +kernel
theorem d_W_place_39 : decode c_W_place 39 = .ok (.istore_n 2, 1) := by decide +kernel
theorem d_W_place_40 : decode c_W_place 40 = .ok (.iload_n 2, 1) := by decide +kernel
theorem d_W_place_41 : decode c_W_place 41 = .ok (.aload_n 0, 1) := by decide +kernel
theorem d_W_place_42 : decode c_W_place 42 = .ok (.getfield 10, 3) := by decide +kernel
theorem d_W_place_45 : decode c_W_place 45 = .ok (.getfield 48, 3) := by decide +kernel
theorem d_W_place_48 : decode c_W_place 48 = .ok (.if_icmp .ge 20, 3) := by decide +kernel
theorem d_W_place_51 : decode c_W_place 51 = .ok (.aload_n 0, 1) := by decide +kernel
theorem d_W_place_52 : decode c_W_place 52 = .ok (.iload_n 2, 1) := by decide +kernel
theorem d_W_place_53 : decode c_W_place 53 = .ok (.invokevirtual 119, 3) := by decide +kernel
theorem d_W_place_56 : decode c_W_place 56 = .ok (.iload_n 1, 1) := by decide +kernel
theorem d_W_place_57 : decode c_W_place 57 = .ok (.if_icmp .ne 5, 3) := by decide +kernel
theorem d_W_place_60 : decode c_W_place 60 = .ok (.iload_n 2, 1) := by decide +kernel
theorem d_W_place_61 : decode c_W_place 61 = .ok (.ireturn, 1) := by decide +kernel
theorem d_W_place_62 : decode c_W_place 62 = .ok (.iinc 2 1, 3) := by decide +kernel
theorem d_W_place_65 : decode c_W_place 65 = .ok (.goto (-25), 3) := by decide +kernel
theorem d_W_place_68 : decode c_W_place 68 = .ok (.iconst (-1), 1) := by decide +kernel
theorem d_W_place_69 : decode c_W_place 69 = .ok (.ireturn, 1) := by decide +kernel
theorem d_W_nodesAhead_0 : decode c_W_nodesAhead 0 = .ok (.iconst 0, 1) := by decide +kernel
theorem d_W_nodesAhead_1 : decode c_W_nodesAhead 1 = .ok (.istore_n 2, 1) := by decide +kernel
theorem d_W_nodesAhead_2 : decode c_W_nodesAhead 2 = .ok (.iconst 0, 1) := by decide +kernel
theorem d_W_nodesAhead_3 : decode c_W_nodesAhead 3 = .ok (.istore_n 3, 1) := by decide +kernel
theorem d_W_nodesAhead_4 : decode c_W_nodesAhead 4 = .ok (.iload_n 3, 1) := by decide +kernel
theorem d_W_nodesAhead_5 : decode c_W_nodesAhead 5 = .ok (.aload_n 0, 1) := by decide +kernel
theorem d_W_nodesAhead_6 : decode c_W_nodesAhead 6 = .ok (.getfield 10, 3) := by decide +kernel
theorem d_W_nodesAhead_9 : decode c_W_nodesAhead 9 = .ok (.getfield 48, 3) := by decide +kernel
theorem d_W_nodesAhead_12 : decode c_W_nodesAhead 12 = .ok (.if_icmp .ge 49, 3) := by decide +kernel
theorem d_W_nodesAhead_15 : decode c_W_nodesAhead 15 = .ok (.aload_n 0, 1) := by decide +kernel
theorem d_W_nodesAhead_16 : decode c_W_nodesAhead 16 = .ok (.getfield 44, 3) := by decide +kernel
theorem d_W_nodesAhead_19 : decode c_W_nodesAhead 19 = .ok (.iload_n 3, 1) := by decide +kernel
theorem d_W_nodesAhead_20 : decode c_W_nodesAhead 20 = .ok (.laload, 1) := by decide +kernel
theorem d_W_nodesAhead_21 : decode c_W_nodesAhead 21 = .ok (.aload_n 0, 1) := by decide +kernel
theorem d_W_nodesAhead_22 : decode c_W_nodesAhead 22 = .ok (.getfield 44, 3) := by decide +kernel
theorem d_W_nodesAhead_25 : decode c_W_nodesAhead 25 = .ok (.iload_n 1, 1) := by decide +kernel
theorem d_W_nodesAhead_26 : decode c_W_nodesAhead 26 = .ok (.laload, 1) := by decide +kernel
theorem d_W_nodesAhead_27 : decode c_W_nodesAhead 27 = .ok (.lcmp, 1) := by decide +kernel
theorem d_W_nodesAhead_28 : decode c_W_nodesAhead 28 = .ok (.ifCond .gt 24, 3) := by decide +kernel
theorem d_W_nodesAhead_31 : decode c_W_nodesAhead 31 = .ok (.aload_n 0, 1) := by decide +kernel
theorem d_W_nodesAhead_32 : decode c_W_nodesAhead 32 = .ok (.getfield 44, 3) := by decide +kernel
theorem d_W_nodesAhead_35 : decode c_W_nodesAhead 35 = .ok (.iload_n 3, 1) := by decide +kernel
theorem d_W_nodesAhead_36 : decode c_W_nodesAhead 36 = .ok (.laload, 1) := by decide +kernel
theorem d_W_nodesAhead_37 : decode c_W_nodesAhead 37 = .ok (.aload_n 0, 1) := by decide +kernel
theorem d_W_nodesAhead_38 : decode c_W_nodesAhead 38 = .ok (.getfield 44, 3) := by decide +kernel
theorem d_W_nodesAhead_41 : decode c_W_nodesAhead 41 = .ok (.iload_n 1, 1) := by decide +kernel
theorem d_W_nodesAhead_42 : decode c_W_nodesAhead 42 = .ok (.laload, 1) := by decide +kernel
theorem d_W_nodesAhead_43 : decode c_W_nodesAhead 43 = .ok (.lcmp, 1) := by decide +kernel
theorem d_W_nodesAhead_44 : decode c_W_nodesAhead 44 = .ok (.ifCond .ne 11, 3) := by decide +kernel
theorem d_W_nodesAhead_47 : decode c_W_nodesAhead 47 = .ok (.iload_n 3, 1) := by decide +kernel
theorem d_W_nodesAhead_48 : decode c_W_nodesAhead 48 = .ok (.iload_n 1, 1) := by decide +kernel
theorem d_W_nodesAhead_49 : decode c_W_nodesAhead 49 = .ok (.if_icmp .ge 6, 3) := by decide +kernel
theorem d_W_nodesAhead_52 : decode c_W_nodesAhead 52 = .ok (.iinc 2 1, 3) := by decide +kernel
theorem d_W_nodesAhead_55 : decode c_W_nodesAhead 55 = .ok (.iinc 3 1, 3) := by decide +kernel
theorem d_W_nodesAhead_58 : decode c_W_nodesAhead 58 = .ok (.goto (-54), 3) := by decide +kernel
theorem d_W_nodesAhead_61 : decode c_W_nodesAhead 61 = .ok (.iload_n 2, 1) := by decide +kernel
theorem d_W_nodesAhead_62 : decode c_W_nodesAhead 62 = .ok (.ireturn, 1) := by decide +kernel
theorem d_W_reach_0 : decode c_W_reach 0 = .ok (.aload_n 0, 1) := by decide +kernel
theorem d_W_reach_1 : decode c_W_reach 1 = .ok (.iload_n 1, 1) := by decide +kernel
theorem d_W_reach_2 : decode c_W_reach 2 = .ok (.invokevirtual 59, 3) := by decide +kernel
theorem d_W_reach_5 : decode c_W_reach 5 = .ok (.ifCond .eq 11, 3) := by decide +kernel
theorem d_W_reach_8 : decode c_W_reach 8 = .ok (.aload_n 0, 1) := by decide +kernel
theorem d_W_reach_9 : decode c_W_reach 9 = .ok (.iload_n 2, 1) := by decide +kernel
theorem d_W_reach_10 : decode c_W_reach 10 = .ok (.invokevirtual 59, 3) := by decide +kernel
theorem d_W_reach_13 : decode c_W_reach 13 = .ok (.ifCond .ne 7, 3) := by decide +kernel
theorem d_W_reach_16 : decode c_W_reach 16 = .ok (.ldc2_w 99, 3) := by decide +kernel
theorem d_W_reach_19 : decode c_W_reach 19 = .ok (.lreturn, 1) := by decide +kernel
theorem d_W_reach_20 : decode c_W_reach 20 = .ok (.iload_n 3, 1) := by decide +kernel
theorem d_W_reach_21 : decode c_W_reach 21 = .ok (.invokestatic 101, 3) := by decide +kernel
theorem d_W_reach_24 : decode c_W_reach 24 = .ok (.ifCond .ne 7, 3) := by decide +kernel
theorem d_W_reach_27 : decode c_W_reach 27 = .ok (.ldc2_w 104, 3) := by decide +kernel
theorem d_W_reach_30 : decode c_W_reach 30 = .ok (.lreturn, 1) := by decide +kernel
theorem d_W_reach_31 : decode c_W_reach 31 = .ok (.aload_n 0, 1) := by decide +kernel
theorem d_W_reach_32 : decode c_W_reach 32 = .ok (.iload_n 1, 1) := by decide +kernel
theorem d_W_reach_33 : decode c_W_reach 33 = .ok (.iload_n 2, 1) := by decide +kernel
theorem d_W_reach_34 : decode c_W_reach 34 = .ok (.invokestatic 122, 3) := by decide +kernel
theorem d_W_reach_37 : decode c_W_reach 37 = .ok (.iload_n 3, 1) := by decide +kernel
theorem d_W_reach_38 : decode c_W_reach 38 = .ok (.invokevirtual 125, 3) := by decide +kernel
theorem d_W_reach_41 : decode c_W_reach 41 = .ok (.lreturn, 1) := by decide +kernel
theorem d_W_chanceToCome_0 : decode c_W_chanceToCome 0 = .ok (.iload_n 2, 1) := by decide +kernel
theorem d_W_chanceToCome_1 : decode c_W_chanceToCome 1 = .ok (.iload_n 1, 1) := by decide +kernel
theorem d_W_chanceToCome_2 : decode c_W_chanceToCome 2 = .ok (.invokestatic 176, 3) := by decide +kernel
theorem d_W_chanceToCome_5 : decode c_W_chanceToCome 5 = .ok (.ifCond .eq 10, 3) := by decide +kernel
theorem d_W_chanceToCome_8 : decode c_W_chanceToCome 8 = .ok (.lconst 1, 1) := by decide +kernel
theorem d_W_chanceToCome_9 : decode c_W_chanceToCome 9 = .ok (.lconst 1, 1) := by decide +kernel
theorem d_W_chanceToCome_10 : decode c_W_chanceToCome 10 = .ok (.iload_n 3, 1) := by decide +kernel
theorem d_W_chanceToCome_11 : decode c_W_chanceToCome 11 = .ok (.invokestatic 115, 3) := by decide +kernel
theorem d_W_chanceToCome_14 : decode c_W_chanceToCome 14 = .ok (.lreturn, 1) := by decide +kernel
theorem d_W_chanceToCome_15 : decode c_W_chanceToCome 15 = .ok (.aload_n 0, 1) := by decide +kernel
theorem d_W_chanceToCome_16 : decode c_W_chanceToCome 16 = .ok (.getfield 26, 3) := by decide +kernel
theorem d_W_chanceToCome_19 : decode c_W_chanceToCome 19 = .ok (.iload_n 2, 1) := by decide +kernel
theorem d_W_chanceToCome_20 : decode c_W_chanceToCome 20 = .ok (.invokevirtual 133, 3) := by decide +kernel
theorem d_W_chanceToCome_23 : decode c_W_chanceToCome 23 = .ok (.iload_n 2, 1) := by decide +kernel
theorem d_W_chanceToCome_24 : decode c_W_chanceToCome 24 = .ok (.iconst (-1), 1) := by decide +kernel
theorem d_W_chanceToCome_25 : decode c_W_chanceToCome 25 = .ok (.ixor, 1) := by decide +kernel
theorem d_W_chanceToCome_26 : decode c_W_chanceToCome 26 = .ok (.iand, 1) := by decide +kernel
theorem d_W_chanceToCome_27 : decode c_W_chanceToCome 27 = .ok (.istore 4, 2) := by decide +kernel
theorem d_W_chanceToCome_29 : decode c_W_chanceToCome 29 = .ok (.iload 4, 2) := by decide +kernel
theorem d_W_chanceToCome_31 : decode c_W_chanceToCome 31 = .ok (.iload_n 1, 1) := by decide +kernel
theorem d_W_chanceToCome_32 : decode c_W_chanceToCome 32 = .ok (.invokestatic 176, 3) := by decide +kernel
theorem d_W_chanceToCome_35 : decode c_W_chanceToCome 35 = .ok (.ifCond .ne 10, 3) := by decide +kernel
theorem d_W_chanceToCome_38 : decode c_W_chanceToCome 38 = .ok (.lconst 0, 1) := by decide +kernel
theorem d_W_chanceToCome_39 : decode c_W_chanceToCome 39 = .ok (.lconst 1, 1) := by decide +kernel
theorem d_W_chanceToCome_40 : decode c_W_chanceToCome 40 = .ok (.iload_n 3, 1) := by decide +kernel
theorem d_W_chanceToCome_41 : decode c_W_chanceToCome 41 = .ok (.invokestatic 115, 3) := by decide +kernel
theorem d_W_chanceToCome_44 : decode c_W_chanceToCome 44 = .ok (.lreturn, 1) := by decide +kernel
theorem d_W_chanceToCome_45 : decode c_W_chanceToCome 45 = .ok (.aload_n 0, 1) := by decide +kernel
theorem d_W_chanceToCome_46 : decode c_W_chanceToCome 46 = .ok (.getfield 33, 3) := by decide +kernel
theorem d_W_chanceToCome_49 : decode c_W_chanceToCome 49 = .ok (.aload_n 0, 1) := by decide +kernel
theorem d_W_chanceToCome_50 : decode c_W_chanceToCome 50 = .ok (.getfield 19, 3) := by decide +kernel
theorem d_W_chanceToCome_53 : decode c_W_chanceToCome 53 = .ok (.iload 4, 2) := by decide +kernel
theorem d_W_chanceToCome_55 : decode c_W_chanceToCome 55 = .ok (.invokevirtual 136, 3) := by decide +kernel
theorem d_W_chanceToCome_58 : decode c_W_chanceToCome 58 = .ok (.aload_n 0, 1) := by decide +kernel
theorem d_W_chanceToCome_59 : decode c_W_chanceToCome 59 = .ok (.getfield 33, 3) := by decide +kernel
theorem d_W_chanceToCome_62 : decode c_W_chanceToCome 62 = .ok (.invokevirtual 140, 3) := by decide +kernel
theorem d_W_chanceToCome_65 : decode c_W_chanceToCome 65 = .ok (.lstore 5, 2) := by decide +kernel
theorem d_W_chanceToCome_67 : decode c_W_chanceToCome 67 = .ok (.aload_n 0, 1) := by decide +kernel
theorem d_W_chanceToCome_68 : decode c_W_chanceToCome 68 = .ok (.getfield 33, 3) := by decide +kernel
theorem d_W_chanceToCome_71 : decode c_W_chanceToCome 71 = .ok (.aload_n 0, 1) := by decide +kernel
theorem d_W_chanceToCome_72 : decode c_W_chanceToCome 72 = .ok (.getfield 19, 3) := by decide +kernel
theorem d_W_chanceToCome_75 : decode c_W_chanceToCome 75 = .ok (.iload 4, 2) := by decide +kernel
theorem d_W_chanceToCome_77 : decode c_W_chanceToCome 77 = .ok (.iload_n 2, 1) := by decide +kernel
theorem d_W_chanceToCome_78 : decode c_W_chanceToCome 78 = .ok (.iload_n 1, 1) := by decide +kernel
theorem d_W_chanceToCome_79 : decode c_W_chanceToCome 79 = .ok (.invokevirtual 180, 3) := by decide +kernel
theorem d_W_chanceToCome_82 : decode c_W_chanceToCome 82 = .ok (.aload_n 0, 1) := by decide +kernel
theorem d_W_chanceToCome_83 : decode c_W_chanceToCome 83 = .ok (.getfield 33, 3) := by decide +kernel
theorem d_W_chanceToCome_86 : decode c_W_chanceToCome 86 = .ok (.invokevirtual 140, 3) := by decide +kernel
theorem d_W_chanceToCome_89 : decode c_W_chanceToCome 89 = .ok (.lload 5, 2) := by decide +kernel
theorem d_W_chanceToCome_91 : decode c_W_chanceToCome 91 = .ok (.iload_n 3, 1) := by decide +kernel
theorem d_W_chanceToCome_92 : decode c_W_chanceToCome 92 = .ok (.invokestatic 115, 3) := by decide +kernel
theorem d_W_chanceToCome_95 : decode c_W_chanceToCome 95 = .ok (.lreturn, 1) := by decide +kernel
theorem d_W_hit_0 : decode c_W_hit 0 = .ok (.aload_n 0, 1) := by decide +kernel
theorem d_W_hit_1 : decode c_W_hit 1 = .ok (.iload_n 1, 1) := by decide +kernel
theorem d_W_hit_2 : decode c_W_hit 2 = .ok (.invokevirtual 59, 3) := by decide +kernel
theorem d_W_hit_5 : decode c_W_hit 5 = .ok (.ifCond .eq 11, 3) := by decide +kernel
theorem d_W_hit_8 : decode c_W_hit 8 = .ok (.aload_n 0, 1) := by decide +kernel
theorem d_W_hit_9 : decode c_W_hit 9 = .ok (.iload_n 2, 1) := by decide +kernel
theorem d_W_hit_10 : decode c_W_hit 10 = .ok (.invokevirtual 59, 3) := by decide +kernel
theorem d_W_hit_13 : decode c_W_hit 13 = .ok (.ifCond .ne 7, 3) := by decide +kernel
theorem d_W_hit_16 : decode c_W_hit 16 = .ok (.ldc2_w 99, 3) := by decide +kernel
theorem d_W_hit_19 : decode c_W_hit 19 = .ok (.lreturn, 1) := by decide +kernel
theorem d_W_hit_20 : decode c_W_hit 20 = .ok (.iload_n 3, 1) := by decide +kernel
theorem d_W_hit_21 : decode c_W_hit 21 = .ok (.invokestatic 101, 3) := by decide +kernel
theorem d_W_hit_24 : decode c_W_hit 24 = .ok (.ifCond .ne 7, 3) := by decide +kernel
theorem d_W_hit_27 : decode c_W_hit 27 = .ok (.ldc2_w 104, 3) := by decide +kernel
theorem d_W_hit_30 : decode c_W_hit 30 = .ok (.lreturn, 1) := by decide +kernel
theorem d_W_hit_31 : decode c_W_hit 31 = .ok (.iload_n 1, 1) := by decide +kernel
theorem d_W_hit_32 : decode c_W_hit 32 = .ok (.iload_n 2, 1) := by decide +kernel
theorem d_W_hit_33 : decode c_W_hit 33 = .ok (.if_icmp .ne 10, 3) := by decide +kernel
theorem d_W_hit_36 : decode c_W_hit 36 = .ok (.lconst 0, 1) := by decide +kernel
theorem d_W_hit_37 : decode c_W_hit 37 = .ok (.lconst 1, 1) := by decide +kernel
theorem d_W_hit_38 : decode c_W_hit 38 = .ok (.iload_n 3, 1) := by decide +kernel
theorem d_W_hit_39 : decode c_W_hit 39 = .ok (.invokestatic 115, 3) := by decide +kernel
theorem d_W_hit_42 : decode c_W_hit 42 = .ok (.lreturn, 1) := by decide +kernel
theorem d_W_hit_43 : decode c_W_hit 43 = .ok (.aload_n 0, 1) := by decide +kernel
theorem d_W_hit_44 : decode c_W_hit 44 = .ok (.getfield 19, 3) := by decide +kernel
theorem d_W_hit_47 : decode c_W_hit 47 = .ok (.iload_n 1, 1) := by decide +kernel
theorem d_W_hit_48 : decode c_W_hit 48 = .ok (.iload_n 2, 1) := by decide +kernel
theorem d_W_hit_49 : decode c_W_hit 49 = .ok (.invokestatic 122, 3) := by decide +kernel
theorem d_W_hit_52 : decode c_W_hit 52 = .ok (.invokevirtual 129, 3) := by decide +kernel
theorem d_W_hit_55 : decode c_W_hit 55 = .ok (.istore 4, 2) := by decide +kernel
theorem d_W_hit_57 : decode c_W_hit 57 = .ok (.iload 4, 2) := by decide +kernel
theorem d_W_hit_59 : decode c_W_hit 59 = .ok (.aload_n 0, 1) := by decide +kernel
theorem d_W_hit_60 : decode c_W_hit 60 = .ok (.getfield 26, 3) := by decide +kernel
theorem d_W_hit_63 : decode c_W_hit 63 = .ok (.iload_n 2, 1) := by decide +kernel
theorem d_W_hit_64 : decode c_W_hit 64 = .ok (.invokestatic 122, 3) := by decide +kernel
theorem d_W_hit_67 : decode c_W_hit 67 = .ok (.invokevirtual 133, 3) := by decide +kernel
theorem d_W_hit_70 : decode c_W_hit 70 = .ok (.iconst (-1), 1) := by decide +kernel
theorem d_W_hit_71 : decode c_W_hit 71 = .ok (.ixor, 1) := by decide +kernel
theorem d_W_hit_72 : decode c_W_hit 72 = .ok (.iand, 1) := by decide +kernel
theorem d_W_hit_73 : decode c_W_hit 73 = .ok (.ifCond .eq 7, 3) := by decide +kernel
theorem d_W_hit_76 : decode c_W_hit 76 = .ok (.ldc2_w 106, 3) := by decide +kernel
theorem d_W_hit_79 : decode c_W_hit 79 = .ok (.lreturn, 1) := by decide +kernel
theorem d_W_hit_80 : decode c_W_hit 80 = .ok (.aload_n 0, 1) := by decide +kernel
theorem d_W_hit_81 : decode c_W_hit 81 = .ok (.getfield 33, 3) := by decide +kernel
theorem d_W_hit_84 : decode c_W_hit 84 = .ok (.aload_n 0, 1) := by decide +kernel
theorem d_W_hit_85 : decode c_W_hit 85 = .ok (.getfield 19, 3) := by decide +kernel
theorem d_W_hit_88 : decode c_W_hit 88 = .ok (.iload 4, 2) := by decide +kernel
theorem d_W_hit_90 : decode c_W_hit 90 = .ok (.invokevirtual 136, 3) := by decide +kernel
theorem d_W_hit_93 : decode c_W_hit 93 = .ok (.aload_n 0, 1) := by decide +kernel
theorem d_W_hit_94 : decode c_W_hit 94 = .ok (.getfield 33, 3) := by decide +kernel
theorem d_W_hit_97 : decode c_W_hit 97 = .ok (.invokevirtual 140, 3) := by decide +kernel
theorem d_W_hit_100 : decode c_W_hit 100 = .ok (.lstore 5, 2) := by decide +kernel
theorem d_W_hit_102 : decode c_W_hit 102 = .ok (.aload_n 0, 1) := by decide +kernel
theorem d_W_hit_103 : decode c_W_hit 103 = .ok (.getfield 33, 3) := by decide +kernel
theorem d_W_hit_106 : decode c_W_hit 106 = .ok (.aload_n 0, 1) := by decide +kernel
theorem d_W_hit_107 : decode c_W_hit 107 = .ok (.getfield 19, 3) := by decide +kernel
theorem d_W_hit_110 : decode c_W_hit 110 = .ok (.iload 4, 2) := by decide +kernel
theorem d_W_hit_112 : decode c_W_hit 112 = .ok (.iload_n 1, 1) := by decide +kernel
theorem d_W_hit_113 : decode c_W_hit 113 = .ok (.invokevirtual 144, 3) := by decide +kernel
theorem d_W_hit_116 : decode c_W_hit 116 = .ok (.aload_n 0, 1) := by decide +kernel
theorem d_W_hit_117 : decode c_W_hit 117 = .ok (.getfield 33, 3) := by decide +kernel
theorem d_W_hit_120 : decode c_W_hit 120 = .ok (.invokevirtual 140, 3) := by decide +kernel
theorem d_W_hit_123 : decode c_W_hit 123 = .ok (.lload 5, 2) := by decide +kernel
theorem d_W_hit_125 : decode c_W_hit 125 = .ok (.iload_n 3, 1) := by decide +kernel
theorem d_W_hit_126 : decode c_W_hit 126 = .ok (.invokestatic 115, 3) := by decide +kernel
theorem d_W_hit_129 : decode c_W_hit 129 = .ok (.lreturn, 1) := by decide +kernel
theorem d_W_back_0 : decode c_W_back 0 = .ok (.aload_n 0, 1) := by decide +kernel
theorem d_W_back_1 : decode c_W_back 1 = .ok (.iload_n 1, 1) := by decide +kernel
theorem d_W_back_2 : decode c_W_back 2 = .ok (.invokevirtual 59, 3) := by decide +kernel
theorem d_W_back_5 : decode c_W_back 5 = .ok (.ifCond .ne 7, 3) := by decide +kernel
theorem d_W_back_8 : decode c_W_back 8 = .ok (.ldc2_w 99, 3) := by decide +kernel
theorem d_W_back_11 : decode c_W_back 11 = .ok (.lreturn, 1) := by decide +kernel
theorem d_W_back_12 : decode c_W_back 12 = .ok (.iload_n 2, 1) := by decide +kernel
theorem d_W_back_13 : decode c_W_back 13 = .ok (.invokestatic 101, 3) := by decide +kernel
theorem d_W_back_16 : decode c_W_back 16 = .ok (.ifCond .ne 7, 3) := by decide +kernel
theorem d_W_back_19 : decode c_W_back 19 = .ok (.ldc2_w 104, 3) := by decide +kernel
theorem d_W_back_22 : decode c_W_back 22 = .ok (.lreturn, 1) := by decide +kernel
theorem d_W_back_23 : decode c_W_back 23 = .ok (.aload_n 0, 1) := by decide +kernel
theorem d_W_back_24 : decode c_W_back 24 = .ok (.aload_n 0, 1) := by decide +kernel
theorem d_W_back_25 : decode c_W_back 25 = .ok (.getfield 26, 3) := by decide +kernel
theorem d_W_back_28 : decode c_W_back 28 = .ok (.getfield 86, 3) := by decide +kernel
theorem d_W_back_31 : decode c_W_back 31 = .ok (.iload_n 1, 1) := by decide +kernel
theorem d_W_back_32 : decode c_W_back 32 = .ok (.iaload, 1) := by decide +kernel
theorem d_W_back_33 : decode c_W_back 33 = .ok (.invokevirtual 89, 3) := by decide +kernel
theorem d_W_back_36 : decode c_W_back 36 = .ok (.ifCond .ne 7, 3) := by decide +kernel
theorem d_W_back_39 : decode c_W_back 39 = .ok (.ldc2_w 106, 3) := by decide +kernel
theorem d_W_back_42 : decode c_W_back 42 = .ok (.lreturn, 1) := by decide +kernel
theorem d_W_back_43 : decode c_W_back 43 = .ok (.aload_n 0, 1) := by decide +kernel
theorem d_W_back_44 : decode c_W_back 44 = .ok (.aload_n 0, 1) := by decide +kernel
theorem d_W_back_45 : decode c_W_back 45 = .ok (.getfield 26, 3) := by decide +kernel
theorem d_W_back_48 : decode c_W_back 48 = .ok (.getfield 108, 3) := by decide +kernel
theorem d_W_back_51 : decode c_W_back 51 = .ok (.aload_n 0, 1) := by decide +kernel
theorem d_W_back_52 : decode c_W_back 52 = .ok (.getfield 26, 3) := by decide +kernel
theorem d_W_back_55 : decode c_W_back 55 = .ok (.getfield 86, 3) := by decide +kernel
theorem d_W_back_58 : decode c_W_back 58 = .ok (.iload_n 1, 1) := by decide +kernel
theorem d_W_back_59 : decode c_W_back 59 = .ok (.iaload, 1) := by decide +kernel
theorem d_W_back_60 : decode c_W_back 60 = .ok (.iaload, 1) := by decide +kernel
theorem d_W_back_61 : decode c_W_back 61 = .ok (.invokevirtual 111, 3) := by decide +kernel
theorem d_W_back_64 : decode c_W_back 64 = .ok (.lstore_n 3, 1) := by decide +kernel
theorem d_W_back_65 : decode c_W_back 65 = .ok (.lload_n 3, 1) := by decide +kernel
theorem d_W_back_66 : decode c_W_back 66 = .ok (.aload_n 0, 1) := by decide +kernel
theorem d_W_back_67 : decode c_W_back 67 = .ok (.getfield 44, 3) := by decide +kernel
theorem d_W_back_70 : decode c_W_back 70 = .ok (.iload_n 1, 1) := by decide +kernel
theorem d_W_back_71 : decode c_W_back 71 = .ok (.laload, 1) := by decide +kernel
theorem d_W_back_72 : decode c_W_back 72 = .ok (.iload_n 2, 1) := by decide +kernel
theorem d_W_back_73 : decode c_W_back 73 = .ok (.invokestatic 115, 3) := by decide +kernel
theorem d_W_back_76 : decode c_W_back 76 = .ok (.lreturn, 1) := by decide +kernel
theorem d_W_end_0 : decode c_W_end 0 = .ok (.aload_n 0, 1) := by decide +kernel
theorem d_W_end_1 : decode c_W_end 1 = .ok (.iload_n 1, 1) := by decide +kernel
theorem d_W_end_2 : decode c_W_end 2 = .ok (.invokevirtual 59, 3) := by decide +kernel
theorem d_W_end_5 : decode c_W_end 5 = .ok (.ifCond .eq 11, 3) := by decide +kernel
theorem d_W_end_8 : decode c_W_end 8 = .ok (.aload_n 0, 1) := by decide +kernel
theorem d_W_end_9 : decode c_W_end 9 = .ok (.iload_n 2, 1) := by decide +kernel
theorem d_W_end_10 : decode c_W_end 10 = .ok (.invokevirtual 89, 3) := by decide +kernel
theorem d_W_end_13 : decode c_W_end 13 = .ok (.ifCond .ne 7, 3) := by decide +kernel
theorem d_W_end_16 : decode c_W_end 16 = .ok (.ldc2_w 99, 3) := by decide +kernel
theorem d_W_end_19 : decode c_W_end 19 = .ok (.lreturn, 1) := by decide +kernel
theorem d_W_end_20 : decode c_W_end 20 = .ok (.iload_n 3, 1) := by decide +kernel
theorem d_W_end_21 : decode c_W_end 21 = .ok (.invokestatic 101, 3) := by decide +kernel
theorem d_W_end_24 : decode c_W_end 24 = .ok (.ifCond .ne 7, 3) := by decide +kernel
theorem d_W_end_27 : decode c_W_end 27 = .ok (.ldc2_w 104, 3) := by decide +kernel
theorem d_W_end_30 : decode c_W_end 30 = .ok (.lreturn, 1) := by decide +kernel
theorem d_W_end_31 : decode c_W_end 31 = .ok (.aload_n 0, 1) := by decide +kernel
theorem d_W_end_32 : decode c_W_end 32 = .ok (.iload_n 1, 1) := by decide +kernel
theorem d_W_end_33 : decode c_W_end 33 = .ok (.aload_n 0, 1) := by decide +kernel
theorem d_W_end_34 : decode c_W_end 34 = .ok (.getfield 26, 3) := by decide +kernel
theorem d_W_end_37 : decode c_W_end 37 = .ok (.getfield 108, 3) := by decide +kernel
theorem d_W_end_40 : decode c_W_end 40 = .ok (.iload_n 2, 1) := by decide +kernel
theorem d_W_end_41 : decode c_W_end 41 = .ok (.iaload, 1) := by decide +kernel
theorem d_W_end_42 : decode c_W_end 42 = .ok (.iload_n 3, 1) := by decide +kernel
theorem d_W_end_43 : decode c_W_end 43 = .ok (.invokevirtual 125, 3) := by decide +kernel
theorem d_W_end_46 : decode c_W_end 46 = .ok (.lreturn, 1) := by decide +kernel
theorem d_W_after_0 : decode c_W_after 0 = .ok (.aload_n 0, 1) := by decide +kernel
theorem d_W_after_1 : decode c_W_after 1 = .ok (.iload_n 1, 1) := by decide +kernel
theorem d_W_after_2 : decode c_W_after 2 = .ok (.invokevirtual 59, 3) := by decide +kernel
theorem d_W_after_5 : decode c_W_after 5 = .ok (.ifCond .eq 11, 3) := by decide +kernel
theorem d_W_after_8 : decode c_W_after 8 = .ok (.aload_n 0, 1) := by decide +kernel
theorem d_W_after_9 : decode c_W_after 9 = .ok (.iload_n 2, 1) := by decide +kernel
theorem d_W_after_10 : decode c_W_after 10 = .ok (.invokevirtual 59, 3) := by decide +kernel
theorem d_W_after_13 : decode c_W_after 13 = .ok (.ifCond .ne 7, 3) := by decide +kernel
theorem d_W_after_16 : decode c_W_after 16 = .ok (.ldc2_w 99, 3) := by decide +kernel
theorem d_W_after_19 : decode c_W_after 19 = .ok (.lreturn, 1) := by decide +kernel
theorem d_W_after_20 : decode c_W_after 20 = .ok (.iload_n 3, 1) := by decide +kernel
theorem d_W_after_21 : decode c_W_after 21 = .ok (.ifCond .lt 16, 3) := by decide +kernel
theorem d_W_after_24 : decode c_W_after 24 = .ok (.iload_n 3, 1) := by decide +kernel
theorem d_W_after_25 : decode c_W_after 25 = .ok (.iconst 3, 1) := by decide +kernel
theorem d_W_after_26 : decode c_W_after 26 = .ok (.if_icmp .gt 11, 3) := by decide +kernel
theorem d_W_after_29 : decode c_W_after 29 = .ok (.iload 4, 2) := by decide +kernel
theorem d_W_after_31 : decode c_W_after 31 = .ok (.invokestatic 101, 3) := by decide +kernel
theorem d_W_after_34 : decode c_W_after 34 = .ok (.ifCond .ne 7, 3) := by decide +kernel
theorem d_W_after_37 : decode c_W_after 37 = .ok (.ldc2_w 104, 3) := by decide +kernel
theorem d_W_after_40 : decode c_W_after 40 = .ok (.lreturn, 1) := by decide +kernel
theorem d_W_after_41 : decode c_W_after 41 = .ok (.aload_n 0, 1) := by decide +kernel
theorem d_W_after_42 : decode c_W_after 42 = .ok (.getfield 19, 3) := by decide +kernel
theorem d_W_after_45 : decode c_W_after 45 = .ok (.invokevirtual 148, 3) := by decide +kernel
theorem d_W_after_48 : decode c_W_after 48 = .ok (.lstore 5, 2) := by decide +kernel
theorem d_W_after_50 : decode c_W_after 50 = .ok (.aload_n 0, 1) := by decide +kernel
theorem d_W_after_51 : decode c_W_after 51 = .ok (.getfield 40, 3) := by decide +kernel
theorem d_W_after_54 : decode c_W_after 54 = .ok (.aload_n 0, 1) := by decide +kernel
theorem d_W_after_55 : decode c_W_after 55 = .ok (.getfield 19, 3) := by decide +kernel
theorem d_W_after_58 : decode c_W_after 58 = .ok (.lload 5, 2) := by decide +kernel
theorem d_W_after_60 : decode c_W_after 60 = .ok (.invokevirtual 151, 3) := by decide +kernel
theorem d_W_after_63 : decode c_W_after 63 = .ok (.aload_n 0, 1) := by decide +kernel
theorem d_W_after_64 : decode c_W_after 64 = .ok (.getfield 40, 3) := by decide +kernel
theorem d_W_after_67 : decode c_W_after 67 = .ok (.iload_n 1, 1) := by decide +kernel
theorem d_W_after_68 : decode c_W_after 68 = .ok (.iload_n 3, 1) := by decide +kernel
theorem d_W_after_69 : decode c_W_after 69 = .ok (.invokevirtual 155, 3) := by decide +kernel
theorem d_W_after_72 : decode c_W_after 72 = .ok (.lconst 1, 1) := by decide +kernel
theorem d_W_after_73 : decode c_W_after 73 = .ok (.lstore 7, 2) := by decide +kernel
theorem d_W_after_75 : decode c_W_after 75 = .ok (.iconst 0, 1) := by decide +kernel
theorem d_W_after_76 : decode c_W_after 76 = .ok (.istore 9, 2) := by decide +kernel
theorem d_W_after_78 : decode c_W_after 78 = .ok (.iload 9, 2) := by decide +kernel
theorem d_W_after_80 : decode c_W_after 80 = .ok (.iload_n 3, 1) := by decide +kernel
theorem d_W_after_81 : decode c_W_after 81 = .ok (.if_icmp .ge 16, 3) := by decide +kernel
theorem d_W_after_84 : decode c_W_after 84 = .ok (.lload 7, 2) := by decide +kernel
theorem d_W_after_86 : decode c_W_after 86 = .ok (.lload 5, 2) := by decide +kernel
theorem d_W_after_88 : decode c_W_after 88 = .ok (.lmul, 1) := by decide +kernel
theorem d_W_after_89 : decode c_W_after 89 = .ok (.lstore 7, 2) := by decide +kernel
theorem d_W_after_91 : decode c_W_after 91 = .ok (.iinc 9 1, 3) := by decide +kernel
theorem d_W_after_94 : decode c_W_after 94 = .ok (.goto (-16), 3) := by decide +kernel
theorem d_W_after_97 : decode c_W_after 97 = .ok (.aload_n 0, 1) := by decide +kernel
theorem d_W_after_98 : decode c_W_after 98 = .ok (.getfield 40, 3) := by decide +kernel
theorem d_W_after_101 : decode c_W_after 101 = .ok (.iload_n 2, 1) := by decide +kernel
theorem d_W_after_102 : decode c_W_after 102 = .ok (.invokevirtual 159, 3) := by decide +kernel
theorem d_W_after_105 : decode c_W_after 105 = .ok (.lload 7, 2) := by decide +kernel
theorem d_W_after_107 : decode c_W_after 107 = .ok (.iload 4, 2) := by decide +kernel
theorem d_W_after_109 : decode c_W_after 109 = .ok (.invokestatic 115, 3) := by decide +kernel
theorem d_W_after_112 : decode c_W_after 112 = .ok (.lreturn, 1) := by decide +kernel
theorem d_W_walks_0 : decode c_W_walks 0 = .ok (.aload_n 0, 1) := by decide +kernel
theorem d_W_walks_1 : decode c_W_walks 1 = .ok (.iload_n 1, 1) := by decide +kernel
theorem d_W_walks_2 : decode c_W_walks 2 = .ok (.invokevirtual 59, 3) := by decide +kernel
theorem d_W_walks_5 : decode c_W_walks 5 = .ok (.ifCond .eq 11, 3) := by decide +kernel
theorem d_W_walks_8 : decode c_W_walks 8 = .ok (.aload_n 0, 1) := by decide +kernel
theorem d_W_walks_9 : decode c_W_walks 9 = .ok (.iload_n 2, 1) := by decide +kernel
theorem d_W_walks_10 : decode c_W_walks 10 = .ok (.invokevirtual 59, 3) := by decide +kernel
theorem d_W_walks_13 : decode c_W_walks 13 = .ok (.ifCond .ne 7, 3) := by decide +kernel
theorem d_W_walks_16 : decode c_W_walks 16 = .ok (.ldc2_w 99, 3) := by decide +kernel
theorem d_W_walks_19 : decode c_W_walks 19 = .ok (.lreturn, 1) := by decide +kernel
theorem d_W_walks_20 : decode c_W_walks 20 = .ok (.iload_n 3, 1) := by decide +kernel
theorem d_W_walks_21 : decode c_W_walks 21 = .ok (.ifCond .lt 9, 3) := by decide +kernel
theorem d_W_walks_24 : decode c_W_walks 24 = .ok (.iload_n 3, 1) := by decide +kernel
theorem d_W_walks_25 : decode c_W_walks 25 = .ok (.bipush 12, 2) := by decide +kernel
theorem d_W_walks_27 : decode c_W_walks 27 = .ok (.if_icmp .le 7, 3) := by decide +kernel
theorem d_W_walks_30 : decode c_W_walks 30 = .ok (.ldc2_w 104, 3) := by decide +kernel
theorem d_W_walks_33 : decode c_W_walks 33 = .ok (.lreturn, 1) := by decide +kernel
theorem d_W_walks_34 : decode c_W_walks 34 = .ok (.aload_n 0, 1) := by decide +kernel
theorem d_W_walks_35 : decode c_W_walks 35 = .ok (.getfield 40, 3) := by decide +kernel
theorem d_W_walks_38 : decode c_W_walks 38 = .ok (.aload_n 0, 1) := by decide +kernel
theorem d_W_walks_39 : decode c_W_walks 39 = .ok (.getfield 10, 3) := by decide +kernel
theorem d_W_walks_42 : decode c_W_walks 42 = .ok (.invokevirtual 162, 3) := by decide +kernel
theorem d_W_walks_45 : decode c_W_walks 45 = .ok (.aload_n 0, 1) := by decide +kernel
theorem d_W_walks_46 : decode c_W_walks 46 = .ok (.getfield 40, 3) := by decide +kernel
theorem d_W_walks_49 : decode c_W_walks 49 = .ok (.iload_n 1, 1) := by decide +kernel
theorem d_W_walks_50 : decode c_W_walks 50 = .ok (.iload_n 3, 1) := by decide +kernel
theorem d_W_walks_51 : decode c_W_walks 51 = .ok (.invokevirtual 155, 3) := by decide +kernel
theorem d_W_walks_54 : decode c_W_walks 54 = .ok (.aload_n 0, 1) := by decide +kernel
theorem d_W_walks_55 : decode c_W_walks 55 = .ok (.getfield 40, 3) := by decide +kernel
theorem d_W_walks_58 : decode c_W_walks 58 = .ok (.iload_n 2, 1) := by decide +kernel
theorem d_W_walks_59 : decode c_W_walks 59 = .ok (.invokevirtual 159, 3) := by decide +kernel
theorem d_W_walks_62 : decode c_W_walks 62 = .ok (.lreturn, 1) := by decide +kernel
theorem d_W_drawn_0 : decode c_W_drawn 0 = .ok (.aload_n 0, 1) := by decide +kernel
theorem d_W_drawn_1 : decode c_W_drawn 1 = .ok (.iload_n 1, 1) := by decide +kernel
theorem d_W_drawn_2 : decode c_W_drawn 2 = .ok (.invokevirtual 59, 3) := by decide +kernel
theorem d_W_drawn_5 : decode c_W_drawn 5 = .ok (.ifCond .ne 5, 3) := by decide +kernel
theorem d_W_drawn_8 : decode c_W_drawn 8 = .ok (.iconst (-1), 1) := by decide +kernel
theorem d_W_drawn_9 : decode c_W_drawn 9 = .ok (.ireturn, 1) := by decide +kernel
theorem d_W_drawn_10 : decode c_W_drawn 10 = .ok (.iload_n 3, 1) := by decide +kernel
theorem d_W_drawn_11 : decode c_W_drawn 11 = .ok (.ifCond .lt 10, 3) := by decide +kernel
theorem d_W_drawn_14 : decode c_W_drawn 14 = .ok (.iload_n 3, 1) := by decide +kernel
theorem d_W_drawn_15 : decode c_W_drawn 15 = .ok (.sipush 200, 3) := by decide +kernel
theorem d_W_drawn_18 : decode c_W_drawn 18 = .ok (.if_icmp .le 6, 3) := by decide +kernel
theorem d_W_drawn_21 : decode c_W_drawn 21 = .ok (.bipush (-2), 2) := by decide +kernel
theorem d_W_drawn_23 : decode c_W_drawn 23 = .ok (.ireturn, 1) := by decide +kernel
theorem d_W_drawn_24 : decode c_W_drawn 24 = .ok (.iload_n 1, 1) := by decide +kernel
theorem d_W_drawn_25 : decode c_W_drawn 25 = .ok (.istore 4, 2) := by decide +kernel
theorem d_W_drawn_27 : decode c_W_drawn 27 = .ok (.iload_n 2, 1) := by decide +kernel
theorem d_W_drawn_28 : decode c_W_drawn 28 = .ok (.istore 5, 2) := by decide +kernel
theorem d_W_drawn_30 : decode c_W_drawn 30 = .ok (.iconst 0, 1) := by decide +kernel
theorem d_W_drawn_31 : decode c_W_drawn 31 = .ok (.istore 6, 2) := by decide +kernel
theorem d_W_drawn_33 : decode c_W_drawn 33 = .ok (.iload 6, 2) := by decide +kernel
theorem d_W_drawn_35 : decode c_W_drawn 35 = .ok (.iload_n 3, 1) := by decide +kernel
theorem d_W_drawn_36 : decode c_W_drawn 36 = .ok (.if_icmp .ge 34, 3) := by decide +kernel
theorem d_W_drawn_39 : decode c_W_drawn 39 = .ok (.iload 5, 2) := by decide +kernel
theorem d_W_drawn_41 : decode c_W_drawn 41 = .ok (.ldc 166, 2) := by decide +kernel
theorem d_W_drawn_43 : decode c_W_drawn 43 = .ok (.imul, 1) := by decide +kernel
theorem d_W_drawn_44 : decode c_W_drawn 44 = .ok (.ldc 167, 2) := by decide +kernel
theorem d_W_drawn_46 : decode c_W_drawn 46 = .ok (.iadd, 1) := by decide +kernel
theorem d_W_drawn_47 : decode c_W_drawn 47 = .ok (.istore 5, 2) := by decide +kernel
theorem d_W_drawn_49 : decode c_W_drawn 49 = .ok (.aload_n 0, 1) := by decide +kernel
theorem d_W_drawn_50 : decode c_W_drawn 50 = .ok (.getfield 19, 3) := by decide +kernel
theorem d_W_drawn_53 : decode c_W_drawn 53 = .ok (.iload 4, 2) := by decide +kernel
theorem d_W_drawn_55 : decode c_W_drawn 55 = .ok (.iload 5, 2) := by decide +kernel
theorem d_W_drawn_57 : decode c_W_drawn 57 = .ok (.iconst 1, 1) := by decide +kernel
theorem d_W_drawn_58 : decode c_W_drawn 58 = .ok (.iushr, 1) := by decide +kernel
theorem d_W_drawn_59 : decode c_W_drawn 59 = .ok (.invokevirtual 168, 3) := by decide +kernel
theorem d_W_drawn_62 : decode c_W_drawn 62 = .ok (.istore 4, 2) := by decide +kernel
theorem d_W_drawn_64 : decode c_W_drawn 64 = .ok (.iinc 6 1, 3) := by decide +kernel
theorem d_W_drawn_67 : decode c_W_drawn 67 = .ok (.goto (-34), 3) := by decide +kernel
theorem d_W_drawn_70 : decode c_W_drawn 70 = .ok (.iload 4, 2) := by decide +kernel
theorem d_W_drawn_72 : decode c_W_drawn 72 = .ok (.ireturn, 1) := by decide +kernel
