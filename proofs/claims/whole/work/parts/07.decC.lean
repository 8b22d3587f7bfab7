-- decode rows
theorem d_M_init_0 : decode c_M_init 0 = .ok (.aload_n 0, 1) := by decide +kernel
theorem d_M_init_1 : decode c_M_init 1 = .ok (.invokespecial 1, 3) := by decide +kernel
theorem d_M_init_4 : decode c_M_init 4 = .ok (.aload_n 0, 1) := by decide +kernel
theorem d_M_init_5 : decode c_M_init 5 = .ok (.bipush 25, 2) := by decide +kernel
theorem d_M_init_7 : decode c_M_init 7 = .ok (.newarray .int, 2) := by decide +kernel
theorem d_M_init_9 : decode c_M_init 9 = .ok (.putfield 7, 3) := by decide +kernel
theorem d_M_init_12 : decode c_M_init 12 = .ok (.aload_n 0, 1) := by decide +kernel
theorem d_M_init_13 : decode c_M_init 13 = .ok (.iconst 5, 1) := by decide +kernel
theorem d_M_init_14 : decode c_M_init 14 = .ok (.newarray .int, 2) := by decide +kernel
theorem d_M_init_16 : decode c_M_init 16 = .ok (.putfield 13, 3) := by decide +kernel
theorem d_M_init_19 : decode c_M_init 19 = .ok (.aload_n 0, 1) := by decide +kernel
theorem d_M_init_20 : decode c_M_init 20 = .ok (.iconst 1, 1) := by decide +kernel
theorem d_M_init_21 : decode c_M_init 21 = .ok (.putfield 16, 3) := by decide +kernel
theorem d_M_init_24 : decode c_M_init 24 = .ok (.aload_n 0, 1) := by decide +kernel
theorem d_M_init_25 : decode c_M_init 25 = .ok (.iconst 1, 1) := by decide +kernel
theorem d_M_init_26 : decode c_M_init 26 = .ok (.putfield 20, 3) := by decide +kernel
theorem d_M_init_29 : decode c_M_init 29 = .ok (.aload_n 0, 1) := by decide +kernel
theorem d_M_init_30 : decode c_M_init 30 = .ok (.bipush 25, 2) := by decide +kernel
theorem d_M_init_32 : decode c_M_init 32 = .ok (.newarray .int, 2) := by decide +kernel
theorem d_M_init_34 : decode c_M_init 34 = .ok (.putfield 23, 3) := by decide +kernel
theorem d_M_init_37 : decode c_M_init 37 = .ok (.aload_n 0, 1) := by decide +kernel
theorem d_M_init_38 : decode c_M_init 38 = .ok (.iconst 5, 1) := by decide +kernel
theorem d_M_init_39 : decode c_M_init 39 = .ok (.newarray .int, 2) := by decide +kernel
theorem d_M_init_41 : decode c_M_init 41 = .ok (.putfield 26, 3) := by decide +kernel
theorem d_M_init_44 : decode c_M_init 44 = .ok (.aload_n 0, 1) := by decide +kernel
theorem d_M_init_45 : decode c_M_init 45 = .ok (.iconst 5, 1) := by decide +kernel
theorem d_M_init_46 : decode c_M_init 46 = .ok (.newarray .int, 2) := by decide +kernel
theorem d_M_init_48 : decode c_M_init 48 = .ok (.putfield 29, 3) := by decide +kernel
theorem d_M_init_51 : decode c_M_init 51 = .ok (.aload_n 0, 1) := by decide +kernel
theorem d_M_init_52 : decode c_M_init 52 = .ok (.iconst 5, 1) := by decide +kernel
theorem d_M_init_53 : decode c_M_init 53 = .ok (.newarray .int, 2) := by decide +kernel
theorem d_M_init_55 : decode c_M_init 55 = .ok (.putfield 32, 3) := by decide +kernel
theorem d_M_init_58 : decode c_M_init 58 = .ok (.aload_n 0, 1) := by decide +kernel
theorem d_M_init_59 : decode c_M_init 59 = .ok (.iconst 5, 1) := by decide +kernel
theorem d_M_init_60 : decode c_M_init 60 = .ok (.newarray .int, 2) := by decide +kernel
theorem d_M_init_62 : decode c_M_init 62 = .ok (.putfield 35, 3) := by decide +kernel
theorem d_M_init_65 : decode c_M_init 65 = .ok (.aload_n 0, 1) := by decide +kernel
theorem d_M_init_66 : decode c_M_init 66 = .ok (.iconst 5, 1) := by decide +kernel
theorem d_M_init_67 : decode c_M_init 67 = .ok (.newarray .long, 2) := by decide +kernel
theorem d_M_init_69 : decode c_M_init 69 = .ok (.putfield 38, 3) := by decide +kernel
theorem d_M_init_72 : decode c_M_init 72 = .ok (.aload_n 0, 1) := by decide +kernel
theorem d_M_init_73 : decode c_M_init 73 = .ok (.iconst 5, 1) := by decide +kernel
theorem d_M_init_74 : decode c_M_init 74 = .ok (.newarray .long, 2) := by decide +kernel
theorem d_M_init_76 : decode c_M_init 76 = .ok (.putfield 42, 3) := by decide +kernel
theorem d_M_init_79 : decode c_M_init 79 = .ok (.aload_n 0, 1) := by decide +kernel
theorem d_M_init_80 : decode c_M_init 80 = .ok (.iconst 5, 1) := by decide +kernel
theorem d_M_init_81 : decode c_M_init 81 = .ok (.newarray .long, 2) := by decide +kernel
theorem d_M_init_83 : decode c_M_init 83 = .ok (.putfield 45, 3) := by decide +kernel
theorem d_M_init_86 : decode c_M_init 86 = .ok (.return_, 1) := by decide +kernel
theorem d_M_node_0 : decode c_M_node 0 = .ok (.aload_n 0, 1) := by decide +kernel
theorem d_M_node_1 : decode c_M_node 1 = .ok (.getfield 48, 3) := by decide +kernel
theorem d_M_node_4 : decode c_M_node 4 = .ok (.iconst 5, 1) := by decide +kernel
theorem d_M_node_5 : decode c_M_node 5 = .ok (.if_icmp .ne 6, 3) := by decide +kernel
theorem d_M_node_8 : decode c_M_node 8 = .ok (.bipush (-4), 2) := by decide +kernel
theorem d_M_node_10 : decode c_M_node 10 = .ok (.ireturn, 1) := by decide +kernel
theorem d_M_node_11 : decode c_M_node 11 = .ok (.iconst 0, 1) := by decide +kernel
theorem d_M_node_12 : decode c_M_node 12 = .ok (.istore_n 1, 1) := by decide +kernel
theorem d_M_node_13 : decode c_M_node 13 = .ok (.iload_n 1, 1) := by decide +kernel
theorem d_M_node_14 : decode c_M_node 14 = .ok (.aload_n 0, 1) := by decide +kernel
theorem d_M_node_15 : decode c_M_node 15 = .ok (.getfield 48, 3) := by decide +kernel
theorem d_M_node_18 : decode c_M_node 18 = .ok (.if_icmp .gt 37, 3) := by decide +kernel
theorem d_M_node_21 : decode c_M_node 21 = .ok (.aload_n 0, 1) := by decide +kernel
theorem d_M_node_22 : decode c_M_node 22 = .ok (.getfield 7, 3) := by decide +kernel
theorem d_M_node_25 : decode c_M_node 25 = .ok (.iconst 5, 1) := by decide +kernel
theorem d_M_node_26 : decode c_M_node 26 = .ok (.aload_n 0, 1) := by decide +kernel
theorem d_M_node_27 : decode c_M_node 27 = .ok (.getfield 48, 3) := by decide +kernel
theorem d_M_node_30 : decode c_M_node 30 = .ok (.imul, 1) := by decide +kernel
theorem d_M_node_31 : decode c_M_node 31 = .ok (.iload_n 1, 1) := by decide +kernel
theorem d_M_node_32 : decode c_M_node 32 = .ok (.iadd, 1) := by decide +kernel
theorem d_M_node_33 : decode c_M_node 33 = .ok (.iconst 0, 1) := by decide +kernel
theorem d_M_node_34 : decode c_M_node 34 = .ok (.iastore, 1) := by decide +kernel
theorem d_M_node_35 : decode c_M_node 35 = .ok (.aload_n 0, 1) := by decide +kernel
theorem d_M_node_36 : decode c_M_node 36 = .ok (.getfield 7, 3) := by decide +kernel
theorem d_M_node_39 : decode c_M_node 39 = .ok (.iconst 5, 1) := by decide +kernel
theorem d_M_node_40 : decode c_M_node 40 = .ok (.iload_n 1, 1) := by decide +kernel
theorem d_M_node_41 : decode c_M_node 41 = .ok (.imul, 1) := by decide +kernel
theorem d_M_node_42 : decode c_M_node 42 = .ok (.aload_n 0, 1) := by decide +kernel
theorem d_M_node_43 : decode c_M_node 43 = .ok (.getfield 48, 3) := by decide +kernel
theorem d_M_node_46 : decode c_M_node 46 = .ok (.iadd, 1) := by decide +kernel
theorem d_M_node_47 : decode c_M_node 47 = .ok (.iconst 0, 1) := by decide +kernel
theorem d_M_node_48 : decode c_M_node 48 = .ok (.iastore, 1) := by decide +kernel
theorem d_M_node_49 : decode c_M_node 49 = .ok (.iinc 1 1, 3) := by decide +kernel
theorem d_M_node_52 : decode c_M_node 52 = .ok (.goto (-39), 3) := by decide +kernel
theorem d_M_node_55 : decode c_M_node 55 = .ok (.aload_n 0, 1) := by decide +kernel
theorem d_M_node_56 : decode c_M_node 56 = .ok (.getfield 13, 3) := by decide +kernel
theorem d_M_node_59 : decode c_M_node 59 = .ok (.aload_n 0, 1) := by decide +kernel
theorem d_M_node_60 : decode c_M_node 60 = .ok (.getfield 48, 3) := by decide +kernel
theorem d_M_node_63 : decode c_M_node 63 = .ok (.iconst 1, 1) := by decide +kernel
theorem d_M_node_64 : decode c_M_node 64 = .ok (.iastore, 1) := by decide +kernel
theorem d_M_node_65 : decode c_M_node 65 = .ok (.aload_n 0, 1) := by decide +kernel
theorem d_M_node_66 : decode c_M_node 66 = .ok (.dup, 1) := by decide +kernel
theorem d_M_node_67 : decode c_M_node 67 = .ok (.getfield 48, 3) := by decide +kernel
theorem d_M_node_70 : decode c_M_node 70 = .ok (.iconst 1, 1) := by decide +kernel
theorem d_M_node_71 : decode c_M_node 71 = .ok (.iadd, 1) := by decide +kernel
theorem d_M_node_72 : decode c_M_node 72 = .ok (.putfield 48, 3) := by decide +kernel
theorem d_M_node_75 : decode c_M_node 75 = .ok (.aload_n 0, 1) := by decide +kernel
theorem d_M_node_76 : decode c_M_node 76 = .ok (.getfield 48, 3) := by decide +kernel
theorem d_M_node_79 : decode c_M_node 79 = .ok (.iconst 1, 1) := by decide +kernel
theorem d_M_node_80 : decode c_M_node 80 = .ok (.isub, 1) := by decide +kernel
theorem d_M_node_81 : decode c_M_node 81 = .ok (.ireturn, 1) := by decide +kernel
theorem d_M_weight_0 : decode c_M_weight 0 = .ok (.aload_n 0, 1) := by decide +kernel
theorem d_M_weight_1 : decode c_M_weight 1 = .ok (.iload_n 1, 1) := by decide +kernel
theorem d_M_weight_2 : decode c_M_weight 2 = .ok (.invokevirtual 51, 3) := by decide +kernel
theorem d_M_weight_5 : decode c_M_weight 5 = .ok (.ifCond .eq 11, 3) := by decide +kernel
theorem d_M_weight_8 : decode c_M_weight 8 = .ok (.aload_n 0, 1) := by decide +kernel
theorem d_M_weight_9 : decode c_M_weight 9 = .ok (.iload_n 2, 1) := by decide +kernel
theorem d_M_weight_10 : decode c_M_weight 10 = .ok (.invokevirtual 51, 3) := by decide +kernel
theorem d_M_weight_13 : decode c_M_weight 13 = .ok (.ifCond .ne 5, 3) := by decide +kernel
theorem d_M_weight_16 : decode c_M_weight 16 = .ok (.iconst (-1), 1) := by decide +kernel
theorem d_M_weight_17 : decode c_M_weight 17 = .ok (.ireturn, 1) := by decide +kernel
theorem d_M_weight_18 : decode c_M_weight 18 = .ok (.iload_n 3, 1) := by decide +kernel
theorem d_M_weight_19 : decode c_M_weight 19 = .ok (.ifCond .lt 8, 3) := by decide +kernel
theorem d_M_weight_22 : decode c_M_weight 22 = .ok (.iload_n 3, 1) := by decide +kernel
theorem d_M_weight_23 : decode c_M_weight 23 = .ok (.iconst 2, 1) := by decide +kernel
theorem d_M_weight_24 : decode c_M_weight 24 = .ok (.if_icmp .le 6, 3) := by decide +kernel
theorem d_M_weight_27 : decode c_M_weight 27 = .ok (.bipush (-2), 2) := by decide +kernel
theorem d_M_weight_29 : decode c_M_weight 29 = .ok (.ireturn, 1) := by decide +kernel
theorem d_M_weight_30 : decode c_M_weight 30 = .ok (.aload_n 0, 1) := by decide +kernel
theorem d_M_weight_31 : decode c_M_weight 31 = .ok (.getfield 7, 3) := by decide +kernel
theorem d_M_weight_34 : decode c_M_weight 34 = .ok (.iconst 5, 1) := by decide +kernel
theorem d_M_weight_35 : decode c_M_weight 35 = .ok (.iload_n 1, 1) := by decide +kernel
theorem d_M_weight_36 : decode c_M_weight 36 = .ok (.imul, 1) := by decide +kernel
theorem d_M_weight_37 : decode c_M_weight 37 = .ok (.iload_n 2, 1) := by decide +kernel
theorem d_M_weight_38 : decode c_M_weight 38 = .ok (.iadd, 1) := by decide +kernel
theorem d_M_weight_39 : decode c_M_weight 39 = .ok (.iaload, 1) := by decide +kernel
theorem d_M_weight_40 : decode c_M_weight 40 = .ok (.istore 4, 2) := by decide +kernel
theorem d_M_weight_42 : decode c_M_weight 42 = .ok (.aload_n 0, 1) := by decide +kernel
theorem d_M_weight_43 : decode c_M_weight 43 = .ok (.getfield 7, 3) := by decide +kernel
theorem d_M_weight_46 : decode c_M_weight 46 = .ok (.iconst 5, 1) := by decide +kernel
theorem d_M_weight_47 : decode c_M_weight 47 = .ok (.iload_n 1, 1) := by decide +kernel
theorem d_M_weight_48 : decode c_M_weight 48 = .ok (.imul, 1) := by decide +kernel
theorem d_M_weight_49 : decode c_M_weight 49 = .ok (.iload_n 2, 1) := by decide +kernel
theorem d_M_weight_50 : decode c_M_weight 50 = .ok (.iadd, 1) := by decide +kernel
theorem d_M_weight_51 : decode c_M_weight 51 = .ok (.iload_n 3, 1) := by decide +kernel
theorem d_M_weight_52 : decode c_M_weight 52 = .ok (.iastore, 1) := by decide +kernel
theorem d_M_weight_53 : decode c_M_weight 53 = .ok (.iload 4, 2) := by decide +kernel
theorem d_M_weight_55 : decode c_M_weight 55 = .ok (.ireturn, 1) := by decide +kernel
theorem d_M_isNode_0 : decode c_M_isNode 0 = .ok (.iload_n 1, 1) := by decide +kernel
theorem d_M_isNode_1 : decode c_M_isNode 1 = .ok (.ifCond .lt 15, 3) := by decide +kernel
theorem d_M_isNode_4 : decode c_M_isNode 4 = .ok (.iload_n 1, 1) := by decide +kernel
theorem d_M_isNode_5 : decode c_M_isNode 5 = .ok (.aload_n 0, 1) := by decide +kernel
theorem d_M_isNode_6 : decode c_M_isNode 6 = .ok (.getfield 48, 3) := by decide +kernel
theorem d_M_isNode_9 : decode c_M_isNode 9 = .ok (.if_icmp .ge 7, 3) := by decide +kernel
theorem d_M_isNode_12 : decode c_M_isNode 12 = .ok (.iconst 1, 1) := by decide +kernel
theorem d_M_isNode_13 : decode c_M_isNode 13 = .ok (.goto 4, 3) := by decide +kernel
theorem d_M_isNode_16 : decode c_M_isNode 16 = .ok (.iconst 0, 1) := by decide +kernel
theorem d_M_isNode_17 : decode c_M_isNode 17 = .ok (.ireturn, 1) := by decide +kernel
theorem d_M_jump_0 : decode c_M_jump 0 = .ok (.aload_n 0, 1) := by decide +kernel
theorem d_M_jump_1 : decode c_M_jump 1 = .ok (.iload_n 1, 1) := by decide +kernel
theorem d_M_jump_2 : decode c_M_jump 2 = .ok (.invokevirtual 51, 3) := by decide +kernel
theorem d_M_jump_5 : decode c_M_jump 5 = .ok (.ifCond .ne 5, 3) := by decide +kernel
theorem d_M_jump_8 : decode c_M_jump 8 = .ok (.iconst (-1), 1) := by decide +kernel
theorem d_M_jump_9 : decode c_M_jump 9 = .ok (.ireturn, 1) := by decide +kernel
theorem d_M_jump_10 : decode c_M_jump 10 = .ok (.iload_n 2, 1) := by decide +kernel
theorem d_M_jump_11 : decode c_M_jump 11 = .ok (.ifCond .lt 8, 3) := by decide +kernel
theorem d_M_jump_14 : decode c_M_jump 14 = .ok (.iload_n 2, 1) := by decide +kernel
theorem d_M_jump_15 : decode c_M_jump 15 = .ok (.iconst 2, 1) := by decide +kernel
theorem d_M_jump_16 : decode c_M_jump 16 = .ok (.if_icmp .le 6, 3) := by decide +kernel
theorem d_M_jump_19 : decode c_M_jump 19 = .ok (.bipush (-2), 2) := by decide +kernel
theorem d_M_jump_21 : decode c_M_jump 21 = .ok (.ireturn, 1) := by decide +kernel
theorem d_M_jump_22 : decode c_M_jump 22 = .ok (.aload_n 0, 1) := by decide +kernel
theorem d_M_jump_23 : decode c_M_jump 23 = .ok (.getfield 13, 3) := by decide +kernel
theorem d_M_jump_26 : decode c_M_jump 26 = .ok (.iload_n 1, 1) := by decide +kernel
theorem d_M_jump_27 : decode c_M_jump 27 = .ok (.iaload, 1) := by decide +kernel
theorem d_M_jump_28 : decode c_M_jump 28 = .ok (.istore_n 3, 1) := by decide +kernel
theorem d_M_jump_29 : decode c_M_jump 29 = .ok (.aload_n 0, 1) := by decide +kernel
theorem d_M_jump_30 : decode c_M_jump 30 = .ok (.getfield 13, 3) := by decide +kernel
theorem d_M_jump_33 : decode c_M_jump 33 = .ok (.iload_n 1, 1) := by decide +kernel
theorem d_M_jump_34 : decode c_M_jump 34 = .ok (.iload_n 2, 1) := by decide +kernel
theorem d_M_jump_35 : decode c_M_jump 35 = .ok (.iastore, 1) := by decide +kernel
theorem d_M_jump_36 : decode c_M_jump 36 = .ok (.iload_n 3, 1) := by decide +kernel
theorem d_M_jump_37 : decode c_M_jump 37 = .ok (.ireturn, 1) := by decide +kernel
theorem d_M_keep_0 : decode c_M_keep 0 = .ok (.iload_n 2, 1) := by decide +kernel
theorem d_M_keep_1 : decode c_M_keep 1 = .ok (.iconst 1, 1) := by decide +kernel
theorem d_M_keep_2 : decode c_M_keep 2 = .ok (.if_icmp .lt 17, 3) := by decide +kernel
theorem d_M_keep_5 : decode c_M_keep 5 = .ok (.iload_n 2, 1) := by decide +kernel
theorem d_M_keep_6 : decode c_M_keep 6 = .ok (.iconst 4, 1) := by decide +kernel
theorem d_M_keep_7 : decode c_M_keep 7 = .ok (.if_icmp .gt 12, 3) := by decide +kernel
theorem d_M_keep_10 : decode c_M_keep 10 = .ok (.iload_n 1, 1) := by decide +kernel
theorem d_M_keep_11 : decode c_M_keep 11 = .ok (.ifCond .lt 8, 3) := by decide +kernel
theorem d_M_keep_14 : decode c_M_keep 14 = .ok (.iload_n 1, 1) := by decide +kernel
theorem d_M_keep_15 : decode c_M_keep 15 = .ok (.iload_n 2, 1) := by decide +kernel
theorem d_M_keep_16 : decode c_M_keep 16 = .ok (.if_icmp .le 6, 3) := by decide +kernel
theorem d_M_keep_19 : decode c_M_keep 19 = .ok (.bipush (-2), 2) := by decide +kernel
theorem d_M_keep_21 : decode c_M_keep 21 = .ok (.ireturn, 1) := by decide +kernel
theorem d_M_keep_22 : decode c_M_keep 22 = .ok (.aload_n 0, 1) := by decide +kernel
theorem d_M_keep_23 : decode c_M_keep 23 = .ok (.iload_n 1, 1) := by decide +kernel
theorem d_M_keep_24 : decode c_M_keep 24 = .ok (.putfield 16, 3) := by decide +kernel
theorem d_M_keep_27 : decode c_M_keep 27 = .ok (.aload_n 0, 1) := by decide +kernel
theorem d_M_keep_28 : decode c_M_keep 28 = .ok (.iload_n 2, 1) := by decide +kernel
theorem d_M_keep_29 : decode c_M_keep 29 = .ok (.putfield 20, 3) := by decide +kernel
theorem d_M_keep_32 : decode c_M_keep 32 = .ok (.iconst 1, 1) := by decide +kernel
theorem d_M_keep_33 : decode c_M_keep 33 = .ok (.ireturn, 1) := by decide +kernel
theorem d_M_clear_0 : decode c_M_clear 0 = .ok (.aload_n 0, 1) := by decide +kernel
theorem d_M_clear_1 : decode c_M_clear 1 = .ok (.getfield 48, 3) := by decide +kernel
theorem d_M_clear_4 : decode c_M_clear 4 = .ok (.istore_n 1, 1) := by decide +kernel
theorem d_M_clear_5 : decode c_M_clear 5 = .ok (.aload_n 0, 1) := by decide +kernel
theorem d_M_clear_6 : decode c_M_clear 6 = .ok (.iconst 0, 1) := by decide +kernel
theorem d_M_clear_7 : decode c_M_clear 7 = .ok (.putfield 48, 3) := by decide +kernel
theorem d_M_clear_10 : decode c_M_clear 10 = .ok (.iload_n 1, 1) := by decide +kernel
theorem d_M_clear_11 : decode c_M_clear 11 = .ok (.ireturn, 1) := by decide +kernel
theorem d_M_row_0 : decode c_M_row 0 = .ok (.aload_n 0, 1) := by decide +kernel
theorem d_M_row_1 : decode c_M_row 1 = .ok (.iload_n 1, 1) := by decide +kernel
theorem d_M_row_2 : decode c_M_row 2 = .ok (.invokevirtual 51, 3) := by decide +kernel
theorem d_M_row_5 : decode c_M_row 5 = .ok (.ifCond .eq 11, 3) := by decide +kernel
theorem d_M_row_8 : decode c_M_row 8 = .ok (.aload_n 0, 1) := by decide +kernel
theorem d_M_row_9 : decode c_M_row 9 = .ok (.iload_n 2, 1) := by decide +kernel
theorem d_M_row_10 : decode c_M_row 10 = .ok (.invokevirtual 51, 3) := by decide +kernel
theorem d_M_row_13 : decode c_M_row 13 = .ok (.ifCond .ne 5, 3) := by decide +kernel
theorem d_M_row_16 : decode c_M_row 16 = .ok (.iconst (-1), 1) := by decide +kernel
theorem d_M_row_17 : decode c_M_row 17 = .ok (.ireturn, 1) := by decide +kernel
theorem d_M_row_18 : decode c_M_row 18 = .ok (.aload_n 0, 1) := by decide +kernel
theorem d_M_row_19 : decode c_M_row 19 = .ok (.invokevirtual 59, 3) := by decide +kernel
theorem d_M_row_22 : decode c_M_row 22 = .ok (.aload_n 0, 1) := by decide +kernel
theorem d_M_row_23 : decode c_M_row 23 = .ok (.getfield 23, 3) := by decide +kernel
theorem d_M_row_26 : decode c_M_row 26 = .ok (.iconst 5, 1) := by decide +kernel
theorem d_M_row_27 : decode c_M_row 27 = .ok (.iload_n 1, 1) := by decide +kernel
theorem d_M_row_28 : decode c_M_row 28 = .ok (.imul, 1) := by decide +kernel
theorem d_M_row_29 : decode c_M_row 29 = .ok (.iload_n 2, 1) := by decide +kernel
theorem d_M_row_30 : decode c_M_row 30 = .ok (.iadd, 1) := by decide +kernel
theorem d_M_row_31 : decode c_M_row 31 = .ok (.iaload, 1) := by decide +kernel
theorem d_M_row_32 : decode c_M_row 32 = .ok (.ireturn, 1) := by decide +kernel
theorem d_M_findRows_0 : decode c_M_findRows 0 = .ok (.iconst 0, 1) := by decide +kernel
theorem d_M_findRows_1 : decode c_M_findRows 1 = .ok (.istore_n 1, 1) := by decide +kernel
theorem d_M_findRows_2 : decode c_M_findRows 2 = .ok (.iconst 0, 1) := by decide +kernel
theorem d_M_findRows_3 : decode c_M_findRows 3 = .ok (.istore_n 2, 1) := by decide +kernel
theorem d_M_findRows_4 : decode c_M_findRows 4 = .ok (.iload_n 2, 1) := by decide +kernel
theorem d_M_findRows_5 : decode c_M_findRows 5 = .ok (.aload_n 0, 1) := by decide +kernel
theorem d_M_findRows_6 : decode c_M_findRows 6 = .ok (.getfield 48, 3) := by decide +kernel
theorem d_M_findRows_9 : decode c_M_findRows 9 = .ok (.if_icmp .ge 18, 3) := by decide +kernel
theorem d_M_findRows_12 : decode c_M_findRows 12 = .ok (.iload_n 1, 1) := by decide +kernel
theorem d_M_findRows_13 : decode c_M_findRows 13 = .ok (.aload_n 0, 1) := by decide +kernel
theorem d_M_findRows_14 : decode c_M_findRows 14 = .ok (.getfield 13, 3) := by decide +kernel
theorem d_M_findRows_17 : decode c_M_findRows 17 = .ok (.iload_n 2, 1) := by decide +kernel
theorem d_M_findRows_18 : decode c_M_findRows 18 = .ok (.iaload, 1) := by decide +kernel
theorem d_M_findRows_19 : decode c_M_findRows 19 = .ok (.iadd, 1) := by decide +kernel
theorem d_M_findRows_20 : decode c_M_findRows 20 = .ok (.istore_n 1, 1) := by decide +kernel
theorem d_M_findRows_21 : decode c_M_findRows 21 = .ok (.iinc 2 1, 3) := by decide +kernel
theorem d_M_findRows_24 : decode c_M_findRows 24 = .ok (.goto (-20), 3) := by decide +kernel
theorem d_M_findRows_27 : decode c_M_findRows 27 = .ok (.iconst 0, 1) := by decide +kernel
theorem d_M_findRows_28 : decode c_M_findRows 28 = .ok (.istore_n 2, 1) := by decide +kernel
theorem d_M_findRows_29 : decode c_M_findRows 29 = .ok (.iload_n 2, 1) := by decide +kernel
theorem d_M_findRows_30 : decode c_M_findRows 30 = .ok (.aload_n 0, 1) := by decide +kernel
theorem d_M_findRows_31 : decode c_M_findRows 31 = .ok (.getfield 48, 3) := by decide +kernel
theorem d_M_findRows_34 : decode c_M_findRows 34 = .ok (.if_icmp .ge 238, 3) := by decide +kernel
theorem d_M_findRows_37 : decode c_M_findRows 37 = .ok (.iconst 0, 1) := by decide +kernel
theorem d_M_findRows_38 : decode c_M_findRows 38 = .ok (.istore_n 3, 1) := by decide +kernel
theorem d_M_findRows_39 : decode c_M_findRows 39 = .ok (.iconst 0, 1) := by decide +kernel
theorem d_M_findRows_40 : decode c_M_findRows 40 = .ok (.istore 4, 2) := by decide +kernel
theorem d_M_findRows_42 : decode c_M_findRows 42 = .ok (.iload 4, 2) := by decide +kernel
theorem d_M_findRows_44 : decode c_M_findRows 44 = .ok (.aload_n 0, 1) := by decide +kernel
theorem d_M_findRows_45 : decode c_M_findRows 45 = .ok (.getfield 48, 3) := by decide +kernel
theorem d_M_findRows_48 : decode c_M_findRows 48 = .ok (.if_icmp .ge 23, 3) := by decide +kernel
theorem d_M_findRows_51 : decode c_M_findRows 51 = .ok (.iload_n 3, 1) := by decide +kernel
theorem d_M_findRows_52 : decode c_M_findRows 52 = .ok (.aload_n 0, 1) := by decide +kernel
theorem d_M_findRows_53 : decode c_M_findRows 53 = .ok (.getfield 7, 3) := by decide +kernel
theorem d_M_findRows_56 : decode c_M_findRows 56 = .ok (.iconst 5, 1) := by decide +kernel
theorem d_M_findRows_57 : decode c_M_findRows 57 = .ok (.iload_n 2, 1) := by decide +kernel
theorem d_M_findRows_58 : decode c_M_findRows 58 = .ok (.imul, 1) := by decide +kernel
theorem d_M_findRows_59 : decode c_M_findRows 59 = .ok (.iload 4, 2) := by decide +kernel
theorem d_M_findRows_61 : decode c_M_findRows 61 = .ok (.iadd, 1) := by decide +kernel
theorem d_M_findRows_62 : decode c_M_findRows 62 = .ok (.iaload, 1) := by decide +kernel
theorem d_M_findRows_63 : decode c_M_findRows 63 = .ok (.iadd, 1) := by decide +kernel
theorem d_M_findRows_64 : decode c_M_findRows 64 = .ok (.istore_n 3, 1) := by decide +kernel
theorem d_M_findRows_65 : decode c_M_findRows 65 = .ok (.iinc 4 1, 3) := by decide +kernel
theorem d_M_findRows_68 : decode c_M_findRows 68 = .ok (.goto (-26), 3) := by decide +kernel
theorem d_M_findRows_71 : decode c_M_findRows 71 = .ok (.lconst 0, 1) := by decide +kernel
theorem d_M_findRows_72 : decode c_M_findRows 72 = .ok (.lstore 4, 2) := by decide +kernel
theorem d_M_findRows_74 : decode c_M_findRows 74 = .ok (.iconst 0, 1) := by decide +kernel
theorem d_M_findRows_75 : decode c_M_findRows 75 = .ok (.istore 6, 2) := by decide +kernel
theorem d_M_findRows_77 : decode c_M_findRows 77 = .ok (.iconst 0, 1) := by decide +kernel
theorem d_M_findRows_78 : decode c_M_findRows 78 = .ok (.istore 7, 2) := by decide +kernel
theorem d_M_findRows_80 : decode c_M_findRows 80 = .ok (.iload 7, 2) := by decide +kernel
theorem d_M_findRows_82 : decode c_M_findRows 82 = .ok (.aload_n 0, 1) := by decide +kernel
theorem d_M_findRows_83 : decode c_M_findRows 83 = .ok (.getfield 48, 3) := by decide +kernel
theorem d_M_findRows_86 : decode c_M_findRows 86 = .ok (.if_icmp .ge 133, 3) := by decide +kernel
theorem d_M_findRows_89 : decode c_M_findRows 89 = .ok (.iload_n 3, 1) := by decide +kernel
theorem d_M_findRows_90 : decode c_M_findRows 90 = .ok (.ifCond .le 48, 3) := by decide +kernel
theorem d_M_findRows_93 : decode c_M_findRows 93 = .ok (.iload_n 1, 1) := by decide +kernel
theorem d_M_findRows_94 : decode c_M_findRows 94 = .ok (.ifCond .le 44, 3) := by decide +kernel
theorem d_M_findRows_97 : decode c_M_findRows 97 = .ok (.aload_n 0, 1) := by decide +kernel
theorem d_M_findRows_98 : decode c_M_findRows 98 = .ok (.getfield 16, 3) := by decide +kernel
theorem d_M_findRows_101 : decode c_M_findRows 101 = .ok (.aload_n 0, 1) := by decide +kernel
theorem d_M_findRows_102 : decode c_M_findRows 102 = .ok (.getfield 7, 3) := by decide +kernel
theorem d_M_findRows_105 : decode c_M_findRows 105 = .ok (.iconst 5, 1) := by decide +kernel
theorem d_M_findRows_106 : decode c_M_findRows 106 = .ok (.iload_n 2, 1) := by decide +kernel
theorem d_M_findRows_107 : decode c_M_findRows 107 = .ok (.imul, 1) := by decide +kernel
theorem d_M_findRows_108 : decode c_M_findRows 108 = .ok (.iload 7, 2) := by decide +kernel
theorem d_M_findRows_110 : decode c_M_findRows 110 = .ok (.iadd, 1) := by decide +kernel
theorem d_M_findRows_111 : decode c_M_findRows 111 = .ok (.iaload, 1) := by decide +kernel
theorem d_M_findRows_112 : decode c_M_findRows 112 = .ok (.imul, 1) := by decide +kernel
theorem d_M_findRows_113 : decode c_M_findRows 113 = .ok (.iload_n 1, 1) := by decide +kernel
theorem d_M_findRows_114 : decode c_M_findRows 114 = .ok (.imul, 1) := by decide +kernel
theorem d_M_findRows_115 : decode c_M_findRows 115 = .ok (.aload_n 0, 1) := by decide +kernel
theorem d_M_findRows_116 : decode c_M_findRows 116 = .ok (.getfield 20, 3) := by decide +kernel
theorem d_M_findRows_119 : decode c_M_findRows 119 = .ok (.aload_n 0, 1) := by decide +kernel
theorem d_M_findRows_120 : decode c_M_findRows 120 = .ok (.getfield 16, 3) := by decide +kernel
theorem d_M_findRows_123 : decode c_M_findRows 123 = .ok (.isub, 1) := by decide +kernel
theorem d_M_findRows_124 : decode c_M_findRows 124 = .ok (.aload_n 0, 1) := by decide +kernel
theorem d_M_findRows_125 : decode c_M_findRows 125 = .ok (.getfield 13, 3) := by decide +kernel
theorem d_M_findRows_128 : decode c_M_findRows 128 = .ok (.iload 7, 2) := by decide +kernel
theorem d_M_findRows_130 : decode c_M_findRows 130 = .ok (.iaload, 1) := by decide +kernel
theorem d_M_findRows_131 : decode c_M_findRows 131 = .ok (.imul, 1) := by decide +kernel
theorem d_M_findRows_132 : decode c_M_findRows 132 = .ok (.iload_n 3, 1) := by decide +kernel
theorem d_M_findRows_133 : decode c_M_findRows 133 = .ok (.imul, 1) := by decide +kernel
theorem d_M_findRows_134 : decode c_M_findRows 134 = .ok (.iadd, 1) := by decide +kernel
theorem d_M_findRows_135 : decode c_M_findRows 135 = .ok (.goto 46, 3) := by decide +kernel
theorem d_M_findRows_138 : decode c_M_findRows 138 = .ok (.iload_n 3, 1) := by decide +kernel
theorem d_M_findRows_139 : decode c_M_findRows 139 = .ok (.ifCond .le 17, 3) := by decide +kernel
theorem d_M_findRows_142 : decode c_M_findRows 142 = .ok (.aload_n 0, 1) := by decide +kernel
theorem d_M_findRows_143 : decode c_M_findRows 143 = .ok (.getfield 7, 3) := by decide +kernel
theorem d_M_findRows_146 : decode c_M_findRows 146 = .ok (.iconst 5, 1) := by decide +kernel
theorem d_M_findRows_147 : decode c_M_findRows 147 = .ok (.iload_n 2, 1) := by decide +kernel
theorem d_M_findRows_148 : decode c_M_findRows 148 = .ok (.imul, 1) := by decide +kernel
theorem d_M_findRows_149 : decode c_M_findRows 149 = .ok (.iload 7, 2) := by decide +kernel
theorem d_M_findRows_151 : decode c_M_findRows 151 = .ok (.iadd, 1) := by decide +kernel
theorem d_M_findRows_152 : decode c_M_findRows 152 = .ok (.iaload, 1) := by decide +kernel
theorem d_M_findRows_153 : decode c_M_findRows 153 = .ok (.goto 28, 3) := by decide +kernel
theorem d_M_findRows_156 : decode c_M_findRows 156 = .ok (.iload_n 1, 1) := by decide +kernel
theorem d_M_findRows_157 : decode c_M_findRows 157 = .ok (.ifCond .le 13, 3) := by decide +kernel
theorem d_M_findRows_160 : decode c_M_findRows 160 = .ok (.aload_n 0, 1) := by decide +kernel
theorem d_M_findRows_161 : decode c_M_findRows 161 = .ok (.getfield 13, 3) := by decide +kernel
theorem d_M_findRows_164 : decode c_M_findRows 164 = .ok (.iload 7, 2) := by decide +kernel
theorem d_M_findRows_166 : decode c_M_findRows 166 = .ok (.iaload, 1) := by decide +kernel
theorem d_M_findRows_167 : decode c_M_findRows 167 = .ok (.goto 14, 3) := by decide +kernel
theorem d_M_findRows_170 : decode c_M_findRows 170 = .ok (.iload_n 2, 1) := by decide +kernel
theorem d_M_findRows_171 : decode c_M_findRows 171 = .ok (.iload 7, 2) := by decide +kernel
theorem d_M_findRows_173 : decode c_M_findRows 173 = .ok (.if_icmp .ne 7, 3) := by decide +kernel
theorem d_M_findRows_176 : decode c_M_findRows 176 = .ok (.iconst 1, 1) := by decide +kernel
theorem d_M_findRows_177 : decode c_M_findRows 177 = .ok (.goto 4, 3) := by decide +kernel
theorem d_M_findRows_180 : decode c_M_findRows 180 = .ok (.iconst 0, 1) := by decide +kernel
theorem d_M_findRows_181 : decode c_M_findRows 181 = .ok (.istore 8, 2) := by decide +kernel
theorem d_M_findRows_183 : decode c_M_findRows 183 = .ok (.aload_n 0, 1) := by decide +kernel
theorem d_M_findRows_184 : decode c_M_findRows 184 = .ok (.getfield 23, 3) := by decide +kernel
theorem d_M_findRows_187 : decode c_M_findRows 187 = .ok (.iconst 5, 1) := by decide +kernel
theorem d_M_findRows_188 : decode c_M_findRows 188 = .ok (.iload_n 2, 1) := by decide +kernel
theorem d_M_findRows_189 : decode c_M_findRows 189 = .ok (.imul, 1) := by decide +kernel
theorem d_M_findRows_190 : decode c_M_findRows 190 = .ok (.iload 7, 2) := by decide +kernel
theorem d_M_findRows_192 : decode c_M_findRows 192 = .ok (.iadd, 1) := by decide +kernel
theorem d_M_findRows_193 : decode c_M_findRows 193 = .ok (.iload 8, 2) := by decide +kernel
theorem d_M_findRows_195 : decode c_M_findRows 195 = .ok (.iastore, 1) := by decide +kernel
theorem d_M_findRows_196 : decode c_M_findRows 196 = .ok (.iload 6, 2) := by decide +kernel
theorem d_M_findRows_198 : decode c_M_findRows 198 = .ok (.iload 8, 2) := by decide +kernel
theorem d_M_findRows_200 : decode c_M_findRows 200 = .ok (.iadd, 1) := by decide +kernel
theorem d_M_findRows_201 : decode c_M_findRows 201 = .ok (.istore 6, 2) := by decide +kernel
theorem d_M_findRows_203 : decode c_M_findRows 203 = .ok (.lload 4, 2) := by decide +kernel
theorem d_M_findRows_205 : decode c_M_findRows 205 = .ok (.iload 8, 2) := by decide +kernel
theorem d_M_findRows_207 : decode c_M_findRows 207 = .ok (.i2l, 1) := by decide +kernel
theorem d_M_findRows_208 : decode c_M_findRows 208 = .ok (.invokestatic 55, 3) := by decide +kernel
theorem d_M_findRows_211 : decode c_M_findRows 211 = .ok (.lstore 4, 2) := by decide +kernel
theorem d_M_findRows_213 : decode c_M_findRows 213 = .ok (.iinc 7 1, 3) := by decide +kernel
theorem d_M_findRows_216 : decode c_M_findRows 216 = .ok (.goto (-136), 3) := by decide +kernel
theorem d_M_findRows_219 : decode c_M_findRows 219 = .ok (.iconst 0, 1) := by decide +kernel
theorem d_M_findRows_220 : decode c_M_findRows 220 = .ok (.istore 7, 2) := by decide +kernel
theorem d_M_findRows_222 : decode c_M_findRows 222 = .ok (.iload 7, 2) := by decide +kernel
theorem d_M_findRows_224 : decode c_M_findRows 224 = .ok (.aload_n 0, 1) := by decide +kernel
theorem d_M_findRows_225 : decode c_M_findRows 225 = .ok (.getfield 48, 3) := by decide +kernel
theorem d_M_findRows_228 : decode c_M_findRows 228 = .ok (.if_icmp .ge 26, 3) := by decide +kernel
theorem d_M_findRows_231 : decode c_M_findRows 231 = .ok (.aload_n 0, 1) := by decide +kernel
theorem d_M_findRows_232 : decode c_M_findRows 232 = .ok (.getfield 23, 3) := by decide +kernel
theorem d_M_findRows_235 : decode c_M_findRows 235 = .ok (.iconst 5, 1) := by decide +kernel
theorem d_M_findRows_236 : decode c_M_findRows 236 = .ok (.iload_n 2, 1) := by decide +kernel
theorem d_M_findRows_237 : decode c_M_findRows 237 = .ok (.imul, 1) := by decide +kernel
theorem d_M_findRows_238 : decode c_M_findRows 238 = .ok (.iload 7, 2) := by decide +kernel
theorem d_M_findRows_240 : decode c_M_findRows 240 = .ok (.iadd, 1) := by decide +kernel
theorem d_M_findRows_241 : decode c_M_findRows 241 = .ok (.dup2, 1) := by decide +kernel
theorem d_M_findRows_242 : decode c_M_findRows 242 = .ok (.iaload, 1) := by decide +kernel
theorem d_M_findRows_243 : decode c_M_findRows 243 = .ok (.lload 4, 2) := by decide +kernel
theorem d_M_findRows_245 : decode c_M_findRows 245 = .ok (.l2i, 1) := by decide +kernel
theorem d_M_findRows_246 : decode c_M_findRows 246 = .ok (.idiv, 1) := by decide +kernel
theorem d_M_findRows_247 : decode c_M_findRows 247 = .ok (.iastore, 1) := by decide +kernel
theorem d_M_findRows_248 : decode c_M_findRows 248 = .ok (.iinc 7 1, 3) := by decide +kernel
theorem d_M_findRows_251 : decode c_M_findRows 251 = .ok (.goto (-29), 3) := by decide +kernel
theorem d_M_findRows_254 : decode c_M_findRows 254 = .ok (.aload_n 0, 1) := by decide +kernel
theorem d_M_findRows_255 : decode c_M_findRows 255 = .ok (.getfield 26, 3) := by decide +kernel
theorem d_M_findRows_258 : decode c_M_findRows 258 = .ok (.iload_n 2, 1) := by decide +kernel
theorem d_M_findRows_259 : decode c_M_findRows 259 = .ok (.iload 6, 2) := by decide +kernel
theorem d_M_findRows_261 : decode c_M_findRows 261 = .ok (.lload 4, 2) := by decide +kernel
theorem d_M_findRows_263 : decode c_M_findRows 263 = .ok (.l2i, 1) := by decide +kernel
theorem d_M_findRows_264 : decode c_M_findRows 264 = .ok (.idiv, 1) := by decide +kernel
theorem d_M_findRows_265 : decode c_M_findRows 265 = .ok (.iastore, 1) := by decide +kernel
theorem d_M_findRows_266 : decode c_M_findRows 266 = .ok (.iinc 2 1, 3) := by decide +kernel
theorem d_M_findRows_269 : decode c_M_findRows 269 = .ok (.goto (-240), 3) := by decide +kernel
theorem d_M_findRows_272 : decode c_M_findRows 272 = .ok (.return_, 1) := by decide +kernel
theorem d_M_common_0 : decode c_M_common 0 = .ok (.lload_n 0, 1) := by decide +kernel
theorem d_M_common_1 : decode c_M_common 1 = .ok (.lstore 4, 2) := by decide +kernel
theorem d_M_common_3 : decode c_M_common 3 = .ok (.lload_n 2, 1) := by decide +kernel
theorem d_M_common_4 : decode c_M_common 4 = .ok (.lstore 6, 2) := by decide +kernel
theorem d_M_common_6 : decode c_M_common 6 = .ok (.lload 6, 2) := by decide +kernel
theorem d_M_common_8 : decode c_M_common 8 = .ok (.lconst 0, 1) := by decide +kernel
theorem d_M_common_9 : decode c_M_common 9 = .ok (.lcmp, 1) := by decide +kernel
theorem d_M_common_10 : decode c_M_common 10 = .ok (.ifCond .eq 21, 3) := by decide +kernel
theorem d_M_common_13 : decode c_M_common 13 = .ok (.lload 4, 2) := by decide +kernel
theorem d_M_common_15 : decode c_M_common 15 = .ok (.lload 6, 2) := by decide +kernel
theorem d_M_common_17 : decode c_M_common 17 = .ok (.lrem, 1) := by decide +kernel
theorem d_M_common_18 : decode c_M_common 18 = .ok (.lstore 8, 2) := by decide +kernel
theorem d_M_common_20 : decode c_M_common 20 = .ok (.lload 6, 2) := by decide +kernel
theorem d_M_common_22 : decode c_M_common 22 = .ok (.lstore 4, 2) := by decide +kernel
theorem d_M_common_24 : decode c_M_common 24 = .ok (.lload 8, 2) := by decide +kernel
theorem d_M_common_26 : decode c_M_common 26 = .ok (.lstore 6, 2) := by decide +kernel
theorem d_M_common_28 : decode c_M_common 28 = .ok (.goto (-22), 3) := by decide +kernel
theorem d_M_common_31 : decode c_M_common 31 = .ok (.lload 4, 2) := by decide +kernel
theorem d_M_common_33 : decode c_M_common 33 = .ok (.lreturn, 1) := by decide +kernel
theorem d_M_total_0 : decode c_M_total 0 = .ok (.aload_n 0, 1) := by decide +kernel
theorem d_M_total_1 : decode c_M_total 1 = .ok (.iload_n 1, 1) := by decide +kernel
theorem d_M_total_2 : decode c_M_total 2 = .ok (.invokevirtual 51, 3) := by decide +kernel
theorem d_M_total_5 : decode c_M_total 5 = .ok (.ifCond .ne 5, 3) := by decide +kernel
theorem d_M_total_8 : decode c_M_total 8 = .ok (.iconst (-1), 1) := by decide +kernel
theorem d_M_total_9 : decode c_M_total 9 = .ok (.ireturn, 1) := by decide +kernel
theorem d_M_total_10 : decode c_M_total 10 = .ok (.aload_n 0, 1) := by decide +kernel
theorem d_M_total_11 : decode c_M_total 11 = .ok (.invokevirtual 59, 3) := by decide +kernel
theorem d_M_total_14 : decode c_M_total 14 = .ok (.aload_n 0, 1) := by decide +kernel
theorem d_M_total_15 : decode c_M_total 15 = .ok (.getfield 26, 3) := by decide +kernel
theorem d_M_total_18 : decode c_M_total 18 = .ok (.iload_n 1, 1) := by decide +kernel
theorem d_M_total_19 : decode c_M_total 19 = .ok (.iaload, 1) := by decide +kernel
theorem d_M_total_20 : decode c_M_total 20 = .ok (.ireturn, 1) := by decide +kernel
theorem d_M_closed_0 : decode c_M_closed 0 = .ok (.aload_n 0, 1) := by decide +kernel
theorem d_M_closed_1 : decode c_M_closed 1 = .ok (.invokevirtual 76, 3) := by decide +kernel
theorem d_M_closed_4 : decode c_M_closed 4 = .ok (.aload_n 0, 1) := by decide +kernel
theorem d_M_closed_5 : decode c_M_closed 5 = .ok (.getfield 70, 3) := by decide +kernel
theorem d_M_closed_8 : decode c_M_closed 8 = .ok (.ireturn, 1) := by decide +kernel
theorem d_M_findSets_0 : decode c_M_findSets 0 = .ok (.aload_n 0, 1) := by decide +kernel
theorem d_M_findSets_1 : decode c_M_findSets 1 = .ok (.invokevirtual 59, 3) := by decide +kernel
theorem d_M_findSets_4 : decode c_M_findSets 4 = .ok (.aload_n 0, 1) := by decide +kernel
theorem d_M_findSets_5 : decode c_M_findSets 5 = .ok (.iconst 0, 1) := by decide +kernel
theorem d_M_findSets_6 : decode c_M_findSets 6 = .ok (.putfield 70, 3) := by decide +kernel
theorem d_M_findSets_9 : decode c_M_findSets 9 = .ok (.iconst 0, 1) := by decide +kernel
theorem d_M_findSets_10 : decode c_M_findSets 10 = .ok (.istore_n 1, 1) := by decide +kernel
theorem d_M_findSets_11 : decode c_M_findSets 11 = .ok (.iload_n 1, 1) := by decide +kernel
theorem d_M_findSets_12 : decode c_M_findSets 12 = .ok (.aload_n 0, 1) := by decide +kernel
theorem d_M_findSets_13 : decode c_M_findSets 13 = .ok (.getfield 48, 3) := by decide +kernel
theorem d_M_findSets_16 : decode c_M_findSets 16 = .ok (.if_icmp .ge 107, 3) := by decide +kernel
theorem d_M_findSets_19 : decode c_M_findSets 19 = .ok (.aload_n 0, 1) := by decide +kernel
theorem d_M_findSets_20 : decode c_M_findSets 20 = .ok (.getfield 29, 3) := by decide +kernel
theorem d_M_findSets_23 : decode c_M_findSets 23 = .ok (.iload_n 1, 1) := by decide +kernel
theorem d_M_findSets_24 : decode c_M_findSets 24 = .ok (.bipush (-3), 2) := by decide +kernel
theorem d_M_findSets_26 : decode c_M_findSets 26 = .ok (.iastore, 1) := by decide +kernel
theorem d_M_findSets_27 : decode c_M_findSets 27 = .ok (.aload_n 0, 1) := by decide +kernel
theorem d_M_findSets_28 : decode c_M_findSets 28 = .ok (.iload_n 1, 1) := by decide +kernel
theorem d_M_findSets_29 : decode c_M_findSets 29 = .ok (.invokevirtual 73, 3) := by decide +kernel
theorem d_M_findSets_32 : decode c_M_findSets 32 = .ok (.ifCond .ne 6, 3) := by decide +kernel
theorem d_M_findSets_35 : decode c_M_findSets 35 = .ok (.goto 82, 3) := by decide +kernel
theorem d_M_findSets_38 : decode c_M_findSets 38 = .ok (.aload_n 0, 1) := by decide +kernel
theorem d_M_findSets_39 : decode c_M_findSets 39 = .ok (.iload_n 1, 1) := by decide +kernel
theorem d_M_findSets_40 : decode c_M_findSets 40 = .ok (.iconst (-1), 1) := by decide +kernel
theorem d_M_findSets_41 : decode c_M_findSets 41 = .ok (.invokevirtual 62, 3) := by decide +kernel
theorem d_M_findSets_44 : decode c_M_findSets 44 = .ok (.istore_n 2, 1) := by decide +kernel
theorem d_M_findSets_45 : decode c_M_findSets 45 = .ok (.iload_n 2, 1) := by decide +kernel
theorem d_M_findSets_46 : decode c_M_findSets 46 = .ok (.iconst 1, 1) := by decide +kernel
theorem d_M_findSets_47 : decode c_M_findSets 47 = .ok (.iload_n 1, 1) := by decide +kernel
theorem d_M_findSets_48 : decode c_M_findSets 48 = .ok (.ishl, 1) := by decide +kernel
theorem d_M_findSets_49 : decode c_M_findSets 49 = .ok (.iconst 1, 1) := by decide +kernel
theorem d_M_findSets_50 : decode c_M_findSets 50 = .ok (.isub, 1) := by decide +kernel
theorem d_M_findSets_51 : decode c_M_findSets 51 = .ok (.iand, 1) := by decide +kernel
theorem d_M_findSets_52 : decode c_M_findSets 52 = .ok (.ifCond .ne 23, 3) := by decide +kernel
theorem d_M_findSets_55 : decode c_M_findSets 55 = .ok (.aload_n 0, 1) := by decide +kernel
theorem d_M_findSets_56 : decode c_M_findSets 56 = .ok (.getfield 32, 3) := by decide +kernel
theorem d_M_findSets_59 : decode c_M_findSets 59 = .ok (.aload_n 0, 1) := by decide +kernel
theorem d_M_findSets_60 : decode c_M_findSets 60 = .ok (.getfield 70, 3) := by decide +kernel
theorem d_M_findSets_63 : decode c_M_findSets 63 = .ok (.iload_n 2, 1) := by decide +kernel
theorem d_M_findSets_64 : decode c_M_findSets 64 = .ok (.iastore, 1) := by decide +kernel
theorem d_M_findSets_65 : decode c_M_findSets 65 = .ok (.aload_n 0, 1) := by decide +kernel
theorem d_M_findSets_66 : decode c_M_findSets 66 = .ok (.dup, 1) := by decide +kernel
theorem d_M_findSets_67 : decode c_M_findSets 67 = .ok (.getfield 70, 3) := by decide +kernel
theorem d_M_findSets_70 : decode c_M_findSets 70 = .ok (.iconst 1, 1) := by decide +kernel
theorem d_M_findSets_71 : decode c_M_findSets 71 = .ok (.iadd, 1) := by decide +kernel
theorem d_M_findSets_72 : decode c_M_findSets 72 = .ok (.putfield 70, 3) := by decide +kernel
theorem d_M_findSets_75 : decode c_M_findSets 75 = .ok (.iconst 0, 1) := by decide +kernel
theorem d_M_findSets_76 : decode c_M_findSets 76 = .ok (.istore_n 3, 1) := by decide +kernel
theorem d_M_findSets_77 : decode c_M_findSets 77 = .ok (.iload_n 3, 1) := by decide +kernel
theorem d_M_findSets_78 : decode c_M_findSets 78 = .ok (.aload_n 0, 1) := by decide +kernel
theorem d_M_findSets_79 : decode c_M_findSets 79 = .ok (.getfield 70, 3) := by decide +kernel
theorem d_M_findSets_82 : decode c_M_findSets 82 = .ok (.if_icmp .ge 35, 3) := by decide +kernel
theorem d_M_findSets_85 : decode c_M_findSets 85 = .ok (.aload_n 0, 1) := by decide +kernel
theorem d_M_findSets_86 : decode c_M_findSets 86 = .ok (.getfield 29, 3) := by decide +kernel
theorem d_M_findSets_89 : decode c_M_findSets 89 = .ok (.iload_n 1, 1) := by decide +kernel
theorem d_M_findSets_90 : decode c_M_findSets 90 = .ok (.aload_n 0, 1) := by decide +kernel
theorem d_M_findSets_91 : decode c_M_findSets 91 = .ok (.getfield 32, 3) := by decide +kernel
theorem d_M_findSets_94 : decode c_M_findSets 94 = .ok (.iload_n 3, 1) := by decide +kernel
theorem d_M_findSets_95 : decode c_M_findSets 95 = .ok (.iaload, 1) := by decide +kernel
theorem d_M_findSets_96 : decode c_M_findSets 96 = .ok (.iload_n 2, 1) := by decide +kernel
theorem d_M_findSets_97 : decode c_M_findSets 97 = .ok (.if_icmp .ne 7, 3) := by decide +kernel
theorem d_M_findSets_100 : decode c_M_findSets 100 = .ok (.iload_n 3, 1) := by decide +kernel
theorem d_M_findSets_101 : decode c_M_findSets 101 = .ok (.goto 9, 3) := by decide +kernel
theorem d_M_findSets_104 : decode c_M_findSets 104 = .ok (.aload_n 0, 1) := by decide +kernel
theorem d_M_findSets_105 : decode c_M_findSets 105 = .ok (.getfield 29, 3) := by decide +kernel
theorem d_M_findSets_108 : decode c_M_findSets 108 = .ok (.iload_n 1, 1) := by decide +kernel
theorem d_M_findSets_109 : decode c_M_findSets 109 = .ok (.iaload, 1) := by decide +kernel
theorem d_M_findSets_110 : decode c_M_findSets 110 = .ok (.iastore, 1) := by decide +kernel
theorem d_M_findSets_111 : decode c_M_findSets 111 = .ok (.iinc 3 1, 3) := by decide +kernel
theorem d_M_findSets_114 : decode c_M_findSets 114 = .ok (.goto (-37), 3) := by decide +kernel
theorem d_M_findSets_117 : decode c_M_findSets 117 = .ok (.iinc 1 1, 3) := by decide +kernel
theorem d_M_findSets_120 : decode c_M_findSets 120 = .ok (.goto (-109), 3) := by decide +kernel
theorem d_M_findSets_123 : decode c_M_findSets 123 = .ok (.return_, 1) := by decide +kernel
theorem d_M_isClosed_0 : decode c_M_isClosed 0 = .ok (.aload_n 0, 1) := by decide +kernel
theorem d_M_isClosed_1 : decode c_M_isClosed 1 = .ok (.iload_n 1, 1) := by decide +kernel
theorem d_M_isClosed_2 : decode c_M_isClosed 2 = .ok (.iconst (-1), 1) := by decide +kernel
theorem d_M_isClosed_3 : decode c_M_isClosed 3 = .ok (.invokevirtual 62, 3) := by decide +kernel
theorem d_M_isClosed_6 : decode c_M_isClosed 6 = .ok (.istore_n 2, 1) := by decide +kernel
theorem d_M_isClosed_7 : decode c_M_isClosed 7 = .ok (.iconst 1, 1) := by decide +kernel
theorem d_M_isClosed_8 : decode c_M_isClosed 8 = .ok (.istore_n 3, 1) := by decide +kernel
theorem d_M_isClosed_9 : decode c_M_isClosed 9 = .ok (.iconst 0, 1) := by decide +kernel
theorem d_M_isClosed_10 : decode c_M_isClosed 10 = .ok (.istore 4, 2) := by decide +kernel
theorem d_M_isClosed_12 : decode c_M_isClosed 12 = .ok (.iload 4, 2) := by decide +kernel
theorem d_M_isClosed_14 : decode c_M_isClosed 14 = .ok (.aload_n 0, 1) := by decide +kernel
theorem d_M_isClosed_15 : decode c_M_isClosed 15 = .ok (.getfield 48, 3) := by decide +kernel
theorem d_M_isClosed_18 : decode c_M_isClosed 18 = .ok (.if_icmp .ge 38, 3) := by decide +kernel
theorem d_M_isClosed_21 : decode c_M_isClosed 21 = .ok (.iload_n 3, 1) := by decide +kernel
theorem d_M_isClosed_22 : decode c_M_isClosed 22 = .ok (.ifCond .eq 26, 3) := by decide +kernel
theorem d_M_isClosed_25 : decode c_M_isClosed 25 = .ok (.iload_n 2, 1) := by decide +kernel
theorem d_M_isClosed_26 : decode c_M_isClosed 26 = .ok (.iload 4, 2) := by decide +kernel
theorem d_M_isClosed_28 : decode c_M_isClosed 28 = .ok (.ishr, 1) := by decide +kernel
theorem d_M_isClosed_29 : decode c_M_isClosed 29 = .ok (.iconst 1, 1) := by decide +kernel
theorem d_M_isClosed_30 : decode c_M_isClosed 30 = .ok (.iand, 1) := by decide +kernel
theorem d_M_isClosed_31 : decode c_M_isClosed 31 = .ok (.ifCond .eq 13, 3) := by decide +kernel
theorem d_M_isClosed_34 : decode c_M_isClosed 34 = .ok (.aload_n 0, 1) := by decide +kernel
theorem d_M_isClosed_35 : decode c_M_isClosed 35 = .ok (.iload 4, 2) := by decide +kernel
theorem d_M_isClosed_37 : decode c_M_isClosed 37 = .ok (.iload_n 1, 1) := by decide +kernel
theorem d_M_isClosed_38 : decode c_M_isClosed 38 = .ok (.invokevirtual 66, 3) := by decide +kernel
theorem d_M_isClosed_41 : decode c_M_isClosed 41 = .ok (.ifCond .eq 7, 3) := by decide +kernel
theorem d_M_isClosed_44 : decode c_M_isClosed 44 = .ok (.iconst 1, 1) := by decide +kernel
theorem d_M_isClosed_45 : decode c_M_isClosed 45 = .ok (.goto 4, 3) := by decide +kernel
theorem d_M_isClosed_48 : decode c_M_isClosed 48 = .ok (.iconst 0, 1) := by decide +kernel
theorem d_M_isClosed_49 : decode c_M_isClosed 49 = .ok (.istore_n 3, 1) := by decide +kernel
theorem d_M_isClosed_50 : decode c_M_isClosed 50 = .ok (.iinc 4 1, 3) := by decide +kernel
theorem d_M_isClosed_53 : decode c_M_isClosed 53 = .ok (.goto (-41), 3) := by decide +kernel
theorem d_M_isClosed_56 : decode c_M_isClosed 56 = .ok (.iload_n 3, 1) := by decide +kernel
theorem d_M_isClosed_57 : decode c_M_isClosed 57 = .ok (.ireturn, 1) := by decide +kernel
theorem d_M_reached_0 : decode c_M_reached 0 = .ok (.iconst 1, 1) := by decide +kernel
theorem d_M_reached_1 : decode c_M_reached 1 = .ok (.iload_n 1, 1) := by decide +kernel
theorem d_M_reached_2 : decode c_M_reached 2 = .ok (.ishl, 1) := by decide +kernel
theorem d_M_reached_3 : decode c_M_reached 3 = .ok (.istore_n 3, 1) := by decide +kernel
theorem d_M_reached_4 : decode c_M_reached 4 = .ok (.iconst 0, 1) := by decide +kernel
theorem d_M_reached_5 : decode c_M_reached 5 = .ok (.istore 4, 2) := by decide +kernel
theorem d_M_reached_7 : decode c_M_reached 7 = .ok (.iload 4, 2) := by decide +kernel
theorem d_M_reached_9 : decode c_M_reached 9 = .ok (.iconst 5, 1) := by decide +kernel
theorem d_M_reached_10 : decode c_M_reached 10 = .ok (.if_icmp .ge 87, 3) := by decide +kernel
theorem d_M_reached_13 : decode c_M_reached 13 = .ok (.iconst 0, 1) := by decide +kernel
theorem d_M_reached_14 : decode c_M_reached 14 = .ok (.istore 5, 2) := by decide +kernel
theorem d_M_reached_16 : decode c_M_reached 16 = .ok (.iload 5, 2) := by decide +kernel
theorem d_M_reached_18 : decode c_M_reached 18 = .ok (.aload_n 0, 1) := by decide +kernel
theorem d_M_reached_19 : decode c_M_reached 19 = .ok (.getfield 48, 3) := by decide +kernel
theorem d_M_reached_22 : decode c_M_reached 22 = .ok (.if_icmp .ge 69, 3) := by decide +kernel
theorem d_M_reached_25 : decode c_M_reached 25 = .ok (.iconst 0, 1) := by decide +kernel
theorem d_M_reached_26 : decode c_M_reached 26 = .ok (.istore 6, 2) := by decide +kernel
theorem d_M_reached_28 : decode c_M_reached 28 = .ok (.iload 6, 2) := by decide +kernel
theorem d_M_reached_30 : decode c_M_reached 30 = .ok (.aload_n 0, 1) := by decide +kernel
theorem d_M_reached_31 : decode c_M_reached 31 = .ok (.getfield 48, 3) := by decide +kernel
theorem d_M_reached_34 : decode c_M_reached 34 = .ok (.if_icmp .ge 51, 3) := by decide +kernel
theorem d_M_reached_37 : decode c_M_reached 37 = .ok (.iload_n 3, 1) := by decide +kernel
theorem d_M_reached_38 : decode c_M_reached 38 = .ok (.iload_n 3, 1) := by decide +kernel
theorem d_M_reached_39 : decode c_M_reached 39 = .ok (.iload 5, 2) := by decide +kernel
theorem d_M_reached_41 : decode c_M_reached 41 = .ok (.ishr, 1) := by decide +kernel
theorem d_M_reached_42 : decode c_M_reached 42 = .ok (.iconst 1, 1) := by decide +kernel
theorem d_M_reached_43 : decode c_M_reached 43 = .ok (.iand, 1) := by decide +kernel
theorem d_M_reached_44 : decode c_M_reached 44 = .ok (.iconst 1, 1) := by decide +kernel
theorem d_M_reached_45 : decode c_M_reached 45 = .ok (.if_icmp .ne 31, 3) := by decide +kernel
theorem d_M_reached_48 : decode c_M_reached 48 = .ok (.iload 5, 2) := by decide +kernel
theorem d_M_reached_50 : decode c_M_reached 50 = .ok (.iload_n 2, 1) := by decide +kernel
theorem d_M_reached_51 : decode c_M_reached 51 = .ok (.if_icmp .eq 25, 3) := by decide +kernel
theorem d_M_reached_54 : decode c_M_reached 54 = .ok (.aload_n 0, 1) := by decide +kernel
theorem d_M_reached_55 : decode c_M_reached 55 = .ok (.getfield 23, 3) := by decide +kernel
theorem d_M_reached_58 : decode c_M_reached 58 = .ok (.iconst 5, 1) := by decide +kernel
theorem d_M_reached_59 : decode c_M_reached 59 = .ok (.iload 5, 2) := by decide +kernel
theorem d_M_reached_61 : decode c_M_reached 61 = .ok (.imul, 1) := by decide +kernel
theorem d_M_reached_62 : decode c_M_reached 62 = .ok (.iload 6, 2) := by decide +kernel
theorem d_M_reached_64 : decode c_M_reached 64 = .ok (.iadd, 1) := by decide +kernel
theorem d_M_reached_65 : decode c_M_reached 65 = .ok (.iaload, 1) := by decide +kernel
theorem d_M_reached_66 : decode c_M_reached 66 = .ok (.ifCond .le 10, 3) := by decide +kernel
theorem d_M_reached_69 : decode c_M_reached 69 = .ok (.iconst 1, 1) := by decide +kernel
theorem d_M_reached_70 : decode c_M_reached 70 = .ok (.iload 6, 2) := by decide +kernel
theorem d_M_reached_72 : decode c_M_reached 72 = .ok (.ishl, 1) := by decide +kernel
theorem d_M_reached_73 : decode c_M_reached 73 = .ok (.goto 4, 3) := by decide +kernel
theorem d_M_reached_76 : decode c_M_reached 76 = .ok (.iconst 0, 1) := by decide +kernel
theorem d_M_reached_77 : decode c_M_reached 77 = .ok (.ior, 1) := by decide +kernel
theorem d_M_reached_78 : decode c_M_reached 78 = .ok (.istore_n 3, 1) := by decide +kernel
theorem d_M_reached_79 : decode c_M_reached 79 = .ok (.iinc 6 1, 3) := by decide +kernel
theorem d_M_reached_82 : decode c_M_reached 82 = .ok (.goto (-54), 3) := by decide +kernel
theorem d_M_reached_85 : decode c_M_reached 85 = .ok (.iinc 5 1, 3) := by decide +kernel
theorem d_M_reached_88 : decode c_M_reached 88 = .ok (.goto (-72), 3) := by decide +kernel
theorem d_M_reached_91 : decode c_M_reached 91 = .ok (.iinc 4 1, 3) := by decide +kernel
theorem d_M_reached_94 : decode c_M_reached 94 = .ok (.goto (-87), 3) := by decide +kernel
theorem d_M_reached_97 : decode c_M_reached 97 = .ok (.iload_n 3, 1) := by decide +kernel
theorem d_M_reached_98 : decode c_M_reached 98 = .ok (.ireturn, 1) := by decide +kernel
theorem d_M_leads_0 : decode c_M_leads 0 = .ok (.aload_n 0, 1) := by decide +kernel
theorem d_M_leads_1 : decode c_M_leads 1 = .ok (.iload_n 1, 1) := by decide +kernel
theorem d_M_leads_2 : decode c_M_leads 2 = .ok (.iconst (-1), 1) := by decide +kernel
theorem d_M_leads_3 : decode c_M_leads 3 = .ok (.invokevirtual 62, 3) := by decide +kernel
theorem d_M_leads_6 : decode c_M_leads 6 = .ok (.iload_n 2, 1) := by decide +kernel
theorem d_M_leads_7 : decode c_M_leads 7 = .ok (.ishr, 1) := by decide +kernel
theorem d_M_leads_8 : decode c_M_leads 8 = .ok (.iconst 1, 1) := by decide +kernel
theorem d_M_leads_9 : decode c_M_leads 9 = .ok (.iand, 1) := by decide +kernel
theorem d_M_leads_10 : decode c_M_leads 10 = .ok (.iconst 1, 1) := by decide +kernel
theorem d_M_leads_11 : decode c_M_leads 11 = .ok (.if_icmp .ne 7, 3) := by decide +kernel
theorem d_M_leads_14 : decode c_M_leads 14 = .ok (.iconst 1, 1) := by decide +kernel
theorem d_M_leads_15 : decode c_M_leads 15 = .ok (.goto 4, 3) := by decide +kernel
theorem d_M_leads_18 : decode c_M_leads 18 = .ok (.iconst 0, 1) := by decide +kernel
theorem d_M_leads_19 : decode c_M_leads 19 = .ok (.ireturn, 1) := by decide +kernel
theorem d_M_closedOf_0 : decode c_M_closedOf 0 = .ok (.aload_n 0, 1) := by decide +kernel
theorem d_M_closedOf_1 : decode c_M_closedOf 1 = .ok (.iload_n 1, 1) := by decide +kernel
theorem d_M_closedOf_2 : decode c_M_closedOf 2 = .ok (.invokevirtual 51, 3) := by decide +kernel
theorem d_M_closedOf_5 : decode c_M_closedOf 5 = .ok (.ifCond .ne 5, 3) := by decide +kernel
theorem d_M_closedOf_8 : decode c_M_closedOf 8 = .ok (.iconst (-1), 1) := by decide +kernel
theorem d_M_closedOf_9 : decode c_M_closedOf 9 = .ok (.ireturn, 1) := by decide +kernel
theorem d_M_closedOf_10 : decode c_M_closedOf 10 = .ok (.aload_n 0, 1) := by decide +kernel
theorem d_M_closedOf_11 : decode c_M_closedOf 11 = .ok (.invokevirtual 76, 3) := by decide +kernel
theorem d_M_closedOf_14 : decode c_M_closedOf 14 = .ok (.aload_n 0, 1) := by decide +kernel
theorem d_M_closedOf_15 : decode c_M_closedOf 15 = .ok (.getfield 29, 3) := by decide +kernel
theorem d_M_closedOf_18 : decode c_M_closedOf 18 = .ok (.iload_n 1, 1) := by decide +kernel
theorem d_M_closedOf_19 : decode c_M_closedOf 19 = .ok (.iaload, 1) := by decide +kernel
theorem d_M_closedOf_20 : decode c_M_closedOf 20 = .ok (.ireturn, 1) := by decide +kernel
theorem d_M_period_0 : decode c_M_period 0 = .ok (.aload_n 0, 1) := by decide +kernel
theorem d_M_period_1 : decode c_M_period 1 = .ok (.invokevirtual 76, 3) := by decide +kernel
theorem d_M_period_4 : decode c_M_period 4 = .ok (.iload_n 1, 1) := by decide +kernel
theorem d_M_period_5 : decode c_M_period 5 = .ok (.ifCond .lt 11, 3) := by decide +kernel
theorem d_M_period_8 : decode c_M_period 8 = .ok (.iload_n 1, 1) := by decide +kernel
theorem d_M_period_9 : decode c_M_period 9 = .ok (.aload_n 0, 1) := by decide +kernel
theorem d_M_period_10 : decode c_M_period 10 = .ok (.getfield 70, 3) := by decide +kernel
theorem d_M_period_13 : decode c_M_period 13 = .ok (.if_icmp .lt 5, 3) := by decide +kernel
theorem d_M_period_16 : decode c_M_period 16 = .ok (.iconst (-1), 1) := by decide +kernel
theorem d_M_period_17 : decode c_M_period 17 = .ok (.ireturn, 1) := by decide +kernel
theorem d_M_period_18 : decode c_M_period 18 = .ok (.iconst 0, 1) := by decide +kernel
theorem d_M_period_19 : decode c_M_period 19 = .ok (.istore_n 2, 1) := by decide +kernel
theorem d_M_period_20 : decode c_M_period 20 = .ok (.aload_n 0, 1) := by decide +kernel
theorem d_M_period_21 : decode c_M_period 21 = .ok (.getfield 29, 3) := by decide +kernel
theorem d_M_period_24 : decode c_M_period 24 = .ok (.iload_n 2, 1) := by decide +kernel
theorem d_M_period_25 : decode c_M_period 25 = .ok (.iaload, 1) := by decide +kernel
theorem d_M_period_26 : decode c_M_period 26 = .ok (.iload_n 1, 1) := by decide +kernel
theorem d_M_period_27 : decode c_M_period 27 = .ok (.if_icmp .eq 9, 3) := by decide +kernel
theorem d_M_period_30 : decode c_M_period 30 = .ok (.iinc 2 1, 3) := by decide +kernel
theorem d_M_period_33 : decode c_M_period 33 = .ok (.goto (-13), 3) := by decide +kernel
theorem d_M_period_36 : decode c_M_period 36 = .ok (.iconst 1, 1) := by decide +kernel
theorem d_M_period_37 : decode c_M_period 37 = .ok (.iload_n 2, 1) := by decide +kernel
theorem d_M_period_38 : decode c_M_period 38 = .ok (.ishl, 1) := by decide +kernel
theorem d_M_period_39 : decode c_M_period 39 = .ok (.istore_n 3, 1) := by decide +kernel
theorem d_M_period_40 : decode c_M_period 40 = .ok (.lconst 0, 1) := by decide +kernel
theorem d_M_period_41 : decode c_M_period 41 = .ok (.lstore 4, 2) := by decide +kernel
theorem d_M_period_43 : decode c_M_period 43 = .ok (.iconst 1, 1) := by decide +kernel
theorem d_M_period_44 : decode c_M_period 44 = .ok (.istore 6, 2) := by decide +kernel
theorem d_M_period_46 : decode c_M_period 46 = .ok (.iload 6, 2) := by decide +kernel
theorem d_M_period_48 : decode c_M_period 48 = .ok (.bipush 60, 2) := by decide +kernel
theorem d_M_period_50 : decode c_M_period 50 = .ok (.if_icmp .gt 113, 3) := by decide +kernel
theorem d_M_period_53 : decode c_M_period 53 = .ok (.iconst 0, 1) := by decide +kernel
theorem d_M_period_54 : decode c_M_period 54 = .ok (.istore 7, 2) := by decide +kernel
theorem d_M_period_56 : decode c_M_period 56 = .ok (.iconst 0, 1) := by decide +kernel
theorem d_M_period_57 : decode c_M_period 57 = .ok (.istore 8, 2) := by decide +kernel
theorem d_M_period_59 : decode c_M_period 59 = .ok (.iload 8, 2) := by decide +kernel
theorem d_M_period_61 : decode c_M_period 61 = .ok (.aload_n 0, 1) := by decide +kernel
theorem d_M_period_62 : decode c_M_period 62 = .ok (.getfield 48, 3) := by decide +kernel
theorem d_M_period_65 : decode c_M_period 65 = .ok (.if_icmp .ge 65, 3) := by decide +kernel
theorem d_M_period_68 : decode c_M_period 68 = .ok (.iconst 0, 1) := by decide +kernel
theorem d_M_period_69 : decode c_M_period 69 = .ok (.istore 9, 2) := by decide +kernel
theorem d_M_period_71 : decode c_M_period 71 = .ok (.iload 9, 2) := by decide +kernel
theorem d_M_period_73 : decode c_M_period 73 = .ok (.aload_n 0, 1) := by decide +kernel
theorem d_M_period_74 : decode c_M_period 74 = .ok (.getfield 48, 3) := by decide +kernel
theorem d_M_period_77 : decode c_M_period 77 = .ok (.if_icmp .ge 47, 3) := by decide +kernel
theorem d_M_period_80 : decode c_M_period 80 = .ok (.iload 7, 2) := by decide +kernel
theorem d_M_period_82 : decode c_M_period 82 = .ok (.iload_n 3, 1) := by decide +kernel
theorem d_M_period_83 : decode c_M_period 83 = .ok (.iload 8, 2) := by decide +kernel
theorem d_M_period_85 : decode c_M_period 85 = .ok (.ishr, 1) := by decide +kernel
theorem d_M_period_86 : decode c_M_period 86 = .ok (.iconst 1, 1) := by decide +kernel
theorem d_M_period_87 : decode c_M_period 87 = .ok (.iand, 1) := by decide +kernel
theorem d_M_period_88 : decode c_M_period 88 = .ok (.iconst 1, 1) := by decide +kernel
theorem d_M_period_89 : decode c_M_period 89 = .ok (.if_icmp .ne 25, 3) := by decide +kernel
theorem d_M_period_92 : decode c_M_period 92 = .ok (.aload_n 0, 1) := by decide +kernel
theorem d_M_period_93 : decode c_M_period 93 = .ok (.getfield 23, 3) := by decide +kernel
theorem d_M_period_96 : decode c_M_period 96 = .ok (.iconst 5, 1) := by decide +kernel
theorem d_M_period_97 : decode c_M_period 97 = .ok (.iload 8, 2) := by decide +kernel
theorem d_M_period_99 : decode c_M_period 99 = .ok (.imul, 1) := by decide +kernel
theorem d_M_period_100 : decode c_M_period 100 = .ok (.iload 9, 2) := by decide +kernel
theorem d_M_period_102 : decode c_M_period 102 = .ok (.iadd, 1) := by decide +kernel
theorem d_M_period_103 : decode c_M_period 103 = .ok (.iaload, 1) := by decide +kernel
theorem d_M_period_104 : decode c_M_period 104 = .ok (.ifCond .le 10, 3) := by decide +kernel
theorem d_M_period_107 : decode c_M_period 107 = .ok (.iconst 1, 1) := by decide +kernel
theorem d_M_period_108 : decode c_M_period 108 = .ok (.iload 9, 2) := by decide +kernel
theorem d_M_period_110 : decode c_M_period 110 = .ok (.ishl, 1) := by decide +kernel
theorem d_M_period_111 : decode c_M_period 111 = .ok (.goto 4, 3) := by decide +kernel
theorem d_M_period_114 : decode c_M_period 114 = .ok (.iconst 0, 1) := by decide +kernel
theorem d_M_period_115 : decode c_M_period 115 = .ok (.ior, 1) := by decide +kernel
theorem d_M_period_116 : decode c_M_period 116 = .ok (.istore 7, 2) := by decide +kernel
theorem d_M_period_118 : decode c_M_period 118 = .ok (.iinc 9 1, 3) := by decide +kernel
theorem d_M_period_121 : decode c_M_period 121 = .ok (.goto (-50), 3) := by decide +kernel
theorem d_M_period_124 : decode c_M_period 124 = .ok (.iinc 8 1, 3) := by decide +kernel
theorem d_M_period_127 : decode c_M_period 127 = .ok (.goto (-68), 3) := by decide +kernel
theorem d_M_period_130 : decode c_M_period 130 = .ok (.iload 7, 2) := by decide +kernel
theorem d_M_period_132 : decode c_M_period 132 = .ok (.istore_n 3, 1) := by decide +kernel
theorem d_M_period_133 : decode c_M_period 133 = .ok (.iload_n 3, 1) := by decide +kernel
theorem d_M_period_134 : decode c_M_period 134 = .ok (.iload_n 2, 1) := by decide +kernel
theorem d_M_period_135 : decode c_M_period 135 = .ok (.ishr, 1) := by decide +kernel
theorem d_M_period_136 : decode c_M_period 136 = .ok (.iconst 1, 1) := by decide +kernel
theorem d_M_period_137 : decode c_M_period 137 = .ok (.iand, 1) := by decide +kernel
theorem d_M_period_138 : decode c_M_period 138 = .ok (.iconst 1, 1) := by decide +kernel
theorem d_M_period_139 : decode c_M_period 139 = .ok (.if_icmp .ne 14, 3) := by decide +kernel
theorem d_M_period_142 : decode c_M_period 142 = .ok (.lload 4, 2) := by decide +kernel
theorem d_M_period_144 : decode c_M_period 144 = .ok (.iload 6, 2) := by decide +kernel
theorem d_M_period_146 : decode c_M_period 146 = .ok (.i2l, 1) := by decide +kernel
theorem d_M_period_147 : decode c_M_period 147 = .ok (.invokestatic 55, 3) := by decide +kernel
theorem d_M_period_150 : decode c_M_period 150 = .ok (.goto 5, 3) := by decide +kernel
theorem d_M_period_153 : decode c_M_period 153 = .ok (.lload 4, 2) := by decide +kernel
theorem d_M_period_155 : decode c_M_period 155 = .ok (.lstore 4, 2) := by decide +kernel
theorem d_M_period_157 : decode c_M_period 157 = .ok (.iinc 6 1, 3) := by decide +kernel
theorem d_M_period_160 : decode c_M_period 160 = .ok (.goto (-114), 3) := by decide +kernel
theorem d_M_period_163 : decode c_M_period 163 = .ok (.lload 4, 2) := by decide +kernel
theorem d_M_period_165 : decode c_M_period 165 = .ok (.l2i, 1) := by decide +kernel
theorem d_M_period_166 : decode c_M_period 166 = .ok (.ireturn, 1) := by decide +kernel
theorem d_M_rank_0 : decode c_M_rank 0 = .ok (.aload_n 0, 1) := by decide +kernel
theorem d_M_rank_1 : decode c_M_rank 1 = .ok (.iload_n 1, 1) := by decide +kernel
theorem d_M_rank_2 : decode c_M_rank 2 = .ok (.invokevirtual 51, 3) := by decide +kernel
theorem d_M_rank_5 : decode c_M_rank 5 = .ok (.ifCond .ne 7, 3) := by decide +kernel
theorem d_M_rank_8 : decode c_M_rank 8 = .ok (.ldc2_w 96, 3) := by decide +kernel
theorem d_M_rank_11 : decode c_M_rank 11 = .ok (.lreturn, 1) := by decide +kernel
theorem d_M_rank_12 : decode c_M_rank 12 = .ok (.iload_n 2, 1) := by decide +kernel
theorem d_M_rank_13 : decode c_M_rank 13 = .ok (.invokestatic 98, 3) := by decide +kernel
theorem d_M_rank_16 : decode c_M_rank 16 = .ok (.ifCond .ne 7, 3) := by decide +kernel
theorem d_M_rank_19 : decode c_M_rank 19 = .ok (.ldc2_w 101, 3) := by decide +kernel
theorem d_M_rank_22 : decode c_M_rank 22 = .ok (.lreturn, 1) := by decide +kernel
theorem d_M_rank_23 : decode c_M_rank 23 = .ok (.aload_n 0, 1) := by decide +kernel
theorem d_M_rank_24 : decode c_M_rank 24 = .ok (.invokevirtual 76, 3) := by decide +kernel
theorem d_M_rank_27 : decode c_M_rank 27 = .ok (.aload_n 0, 1) := by decide +kernel
theorem d_M_rank_28 : decode c_M_rank 28 = .ok (.getfield 70, 3) := by decide +kernel
theorem d_M_rank_31 : decode c_M_rank 31 = .ok (.iconst 1, 1) := by decide +kernel
theorem d_M_rank_32 : decode c_M_rank 32 = .ok (.if_icmp .eq 7, 3) := by decide +kernel
theorem d_M_rank_35 : decode c_M_rank 35 = .ok (.ldc2_w 103, 3) := by decide +kernel
theorem d_M_rank_38 : decode c_M_rank 38 = .ok (.lreturn, 1) := by decide +kernel
theorem d_M_rank_39 : decode c_M_rank 39 = .ok (.aload_n 0, 1) := by decide +kernel
theorem d_M_rank_40 : decode c_M_rank 40 = .ok (.aload_n 0, 1) := by decide +kernel
theorem d_M_rank_41 : decode c_M_rank 41 = .ok (.getfield 32, 3) := by decide +kernel
theorem d_M_rank_44 : decode c_M_rank 44 = .ok (.iconst 0, 1) := by decide +kernel
theorem d_M_rank_45 : decode c_M_rank 45 = .ok (.iaload, 1) := by decide +kernel
theorem d_M_rank_46 : decode c_M_rank 46 = .ok (.invokevirtual 105, 3) := by decide +kernel
theorem d_M_rank_49 : decode c_M_rank 49 = .ok (.aload_n 0, 1) := by decide +kernel
theorem d_M_rank_50 : decode c_M_rank 50 = .ok (.getfield 38, 3) := by decide +kernel
theorem d_M_rank_53 : decode c_M_rank 53 = .ok (.iload_n 1, 1) := by decide +kernel
theorem d_M_rank_54 : decode c_M_rank 54 = .ok (.laload, 1) := by decide +kernel
theorem d_M_rank_55 : decode c_M_rank 55 = .ok (.aload_n 0, 1) := by decide +kernel
theorem d_M_rank_56 : decode c_M_rank 56 = .ok (.getfield 89, 3) := by decide +kernel
theorem d_M_rank_59 : decode c_M_rank 59 = .ok (.iload_n 2, 1) := by decide +kernel
theorem d_M_rank_60 : decode c_M_rank 60 = .ok (.invokestatic 109, 3) := by decide +kernel
theorem d_M_rank_63 : decode c_M_rank 63 = .ok (.lreturn, 1) := by decide +kernel
theorem d_M_isPart_0 : decode c_M_isPart 0 = .ok (.iload_n 0, 1) := by decide +kernel
theorem d_M_isPart_1 : decode c_M_isPart 1 = .ok (.ifCond .eq 8, 3) := by decide +kernel
theorem d_M_isPart_4 : decode c_M_isPart 4 = .ok (.iload_n 0, 1) := by decide +kernel
theorem d_M_isPart_5 : decode c_M_isPart 5 = .ok (.iconst 1, 1) := by decide +kernel
theorem d_M_isPart_6 : decode c_M_isPart 6 = .ok (.if_icmp .ne 7, 3) := by decide +kernel
theorem d_M_isPart_9 : decode c_M_isPart 9 = .ok (.iconst 1, 1) := by decide +kernel
theorem d_M_isPart_10 : decode c_M_isPart 10 = .ok (.goto 4, 3) := by decide +kernel
theorem d_M_isPart_13 : decode c_M_isPart 13 = .ok (.iconst 0, 1) := by decide +kernel
theorem d_M_isPart_14 : decode c_M_isPart 14 = .ok (.ireturn, 1) := by decide +kernel
theorem d_M_findShares_0 : decode c_M_findShares 0 = .ok (.aload_n 0, 1) := by decide +kernel
theorem d_M_findShares_1 : decode c_M_findShares 1 = .ok (.lconst 0, 1) := by decide +kernel
theorem d_M_findShares_2 : decode c_M_findShares 2 = .ok (.putfield 89, 3) := by decide +kernel
theorem d_M_findShares_5 : decode c_M_findShares 5 = .ok (.iconst 0, 1) := by decide +kernel
theorem d_M_findShares_6 : decode c_M_findShares 6 = .ok (.istore_n 2, 1) := by decide +kernel
theorem d_M_findShares_7 : decode c_M_findShares 7 = .ok (.iload_n 2, 1) := by decide +kernel
theorem d_M_findShares_8 : decode c_M_findShares 8 = .ok (.aload_n 0, 1) := by decide +kernel
theorem d_M_findShares_9 : decode c_M_findShares 9 = .ok (.getfield 48, 3) := by decide +kernel
theorem d_M_findShares_12 : decode c_M_findShares 12 = .ok (.if_icmp .ge 70, 3) := by decide +kernel
theorem d_M_findShares_15 : decode c_M_findShares 15 = .ok (.aload_n 0, 1) := by decide +kernel
theorem d_M_findShares_16 : decode c_M_findShares 16 = .ok (.getfield 38, 3) := by decide +kernel
theorem d_M_findShares_19 : decode c_M_findShares 19 = .ok (.iload_n 2, 1) := by decide +kernel
theorem d_M_findShares_20 : decode c_M_findShares 20 = .ok (.lconst 0, 1) := by decide +kernel
theorem d_M_findShares_21 : decode c_M_findShares 21 = .ok (.lastore, 1) := by decide +kernel
theorem d_M_findShares_22 : decode c_M_findShares 22 = .ok (.iload_n 1, 1) := by decide +kernel
theorem d_M_findShares_23 : decode c_M_findShares 23 = .ok (.iload_n 2, 1) := by decide +kernel
theorem d_M_findShares_24 : decode c_M_findShares 24 = .ok (.ishr, 1) := by decide +kernel
theorem d_M_findShares_25 : decode c_M_findShares 25 = .ok (.iconst 1, 1) := by decide +kernel
theorem d_M_findShares_26 : decode c_M_findShares 26 = .ok (.iand, 1) := by decide +kernel
theorem d_M_findShares_27 : decode c_M_findShares 27 = .ok (.iconst 1, 1) := by decide +kernel
theorem d_M_findShares_28 : decode c_M_findShares 28 = .ok (.if_icmp .ne 48, 3) := by decide +kernel
theorem d_M_findShares_31 : decode c_M_findShares 31 = .ok (.aload_n 0, 1) := by decide +kernel
theorem d_M_findShares_32 : decode c_M_findShares 32 = .ok (.iload_n 1, 1) := by decide +kernel
theorem d_M_findShares_33 : decode c_M_findShares 33 = .ok (.iconst 1, 1) := by decide +kernel
theorem d_M_findShares_34 : decode c_M_findShares 34 = .ok (.iload_n 2, 1) := by decide +kernel
theorem d_M_findShares_35 : decode c_M_findShares 35 = .ok (.ishl, 1) := by decide +kernel
theorem d_M_findShares_36 : decode c_M_findShares 36 = .ok (.iload_n 2, 1) := by decide +kernel
theorem d_M_findShares_37 : decode c_M_findShares 37 = .ok (.iconst 1, 1) := by decide +kernel
theorem d_M_findShares_38 : decode c_M_findShares 38 = .ok (.iload_n 2, 1) := by decide +kernel
theorem d_M_findShares_39 : decode c_M_findShares 39 = .ok (.ishl, 1) := by decide +kernel
theorem d_M_findShares_40 : decode c_M_findShares 40 = .ok (.invokevirtual 92, 3) := by decide +kernel
theorem d_M_findShares_43 : decode c_M_findShares 43 = .ok (.aload_n 0, 1) := by decide +kernel
theorem d_M_findShares_44 : decode c_M_findShares 44 = .ok (.getfield 38, 3) := by decide +kernel
theorem d_M_findShares_47 : decode c_M_findShares 47 = .ok (.iload_n 2, 1) := by decide +kernel
theorem d_M_findShares_48 : decode c_M_findShares 48 = .ok (.aload_n 0, 1) := by decide +kernel
theorem d_M_findShares_49 : decode c_M_findShares 49 = .ok (.getfield 79, 3) := by decide +kernel
theorem d_M_findShares_52 : decode c_M_findShares 52 = .ok (.aload_n 0, 1) := by decide +kernel
theorem d_M_findShares_53 : decode c_M_findShares 53 = .ok (.getfield 26, 3) := by decide +kernel
theorem d_M_findShares_56 : decode c_M_findShares 56 = .ok (.iload_n 2, 1) := by decide +kernel
theorem d_M_findShares_57 : decode c_M_findShares 57 = .ok (.iaload, 1) := by decide +kernel
theorem d_M_findShares_58 : decode c_M_findShares 58 = .ok (.i2l, 1) := by decide +kernel
theorem d_M_findShares_59 : decode c_M_findShares 59 = .ok (.lmul, 1) := by decide +kernel
theorem d_M_findShares_60 : decode c_M_findShares 60 = .ok (.lastore, 1) := by decide +kernel
theorem d_M_findShares_61 : decode c_M_findShares 61 = .ok (.aload_n 0, 1) := by decide +kernel
theorem d_M_findShares_62 : decode c_M_findShares 62 = .ok (.dup, 1) := by decide +kernel
theorem d_M_findShares_63 : decode c_M_findShares 63 = .ok (.getfield 89, 3) := by decide +kernel
theorem d_M_findShares_66 : decode c_M_findShares 66 = .ok (.aload_n 0, 1) := by decide +kernel
theorem d_M_findShares_67 : decode c_M_findShares 67 = .ok (.getfield 38, 3) := by decide +kernel
theorem d_M_findShares_70 : decode c_M_findShares 70 = .ok (.iload_n 2, 1) := by decide +kernel
theorem d_M_findShares_71 : decode c_M_findShares 71 = .ok (.laload, 1) := by decide +kernel
theorem d_M_findShares_72 : decode c_M_findShares 72 = .ok (.ladd, 1) := by decide +kernel
theorem d_M_findShares_73 : decode c_M_findShares 73 = .ok (.putfield 89, 3) := by decide +kernel
theorem d_M_findShares_76 : decode c_M_findShares 76 = .ok (.iinc 2 1, 3) := by decide +kernel
theorem d_M_findShares_79 : decode c_M_findShares 79 = .ok (.goto (-72), 3) := by decide +kernel
theorem d_M_findShares_82 : decode c_M_findShares 82 = .ok (.return_, 1) := by decide +kernel
theorem d_M_count_0 : decode c_M_count 0 = .ok (.aload_n 0, 1) := by decide +kernel
theorem d_M_count_1 : decode c_M_count 1 = .ok (.lconst 0, 1) := by decide +kernel
theorem d_M_count_2 : decode c_M_count 2 = .ok (.putfield 79, 3) := by decide +kernel
theorem d_M_count_5 : decode c_M_count 5 = .ok (.aload_n 0, 1) := by decide +kernel
theorem d_M_count_6 : decode c_M_count 6 = .ok (.lconst 0, 1) := by decide +kernel
theorem d_M_count_7 : decode c_M_count 7 = .ok (.putfield 83, 3) := by decide +kernel
theorem d_M_count_10 : decode c_M_count 10 = .ok (.iconst 1, 1) := by decide +kernel
theorem d_M_count_11 : decode c_M_count 11 = .ok (.istore 5, 2) := by decide +kernel
theorem d_M_count_13 : decode c_M_count 13 = .ok (.iconst 0, 1) := by decide +kernel
theorem d_M_count_14 : decode c_M_count 14 = .ok (.istore 6, 2) := by decide +kernel
theorem d_M_count_16 : decode c_M_count 16 = .ok (.iload 6, 2) := by decide +kernel
theorem d_M_count_18 : decode c_M_count 18 = .ok (.aload_n 0, 1) := by decide +kernel
theorem d_M_count_19 : decode c_M_count 19 = .ok (.getfield 48, 3) := by decide +kernel
theorem d_M_count_22 : decode c_M_count 22 = .ok (.if_icmp .ge 36, 3) := by decide +kernel
theorem d_M_count_25 : decode c_M_count 25 = .ok (.iload 5, 2) := by decide +kernel
theorem d_M_count_27 : decode c_M_count 27 = .ok (.iload_n 1, 1) := by decide +kernel
theorem d_M_count_28 : decode c_M_count 28 = .ok (.iload_n 2, 1) := by decide +kernel
theorem d_M_count_29 : decode c_M_count 29 = .ok (.iconst (-1), 1) := by decide +kernel
theorem d_M_count_30 : decode c_M_count 30 = .ok (.ixor, 1) := by decide +kernel
theorem d_M_count_31 : decode c_M_count 31 = .ok (.iand, 1) := by decide +kernel
theorem d_M_count_32 : decode c_M_count 32 = .ok (.iload 6, 2) := by decide +kernel
theorem d_M_count_34 : decode c_M_count 34 = .ok (.ishr, 1) := by decide +kernel
theorem d_M_count_35 : decode c_M_count 35 = .ok (.iconst 1, 1) := by decide +kernel
theorem d_M_count_36 : decode c_M_count 36 = .ok (.iand, 1) := by decide +kernel
theorem d_M_count_37 : decode c_M_count 37 = .ok (.iconst 1, 1) := by decide +kernel
theorem d_M_count_38 : decode c_M_count 38 = .ok (.if_icmp .ne 10, 3) := by decide +kernel
theorem d_M_count_41 : decode c_M_count 41 = .ok (.aload_n 0, 1) := by decide +kernel
theorem d_M_count_42 : decode c_M_count 42 = .ok (.getfield 48, 3) := by decide +kernel
theorem d_M_count_45 : decode c_M_count 45 = .ok (.goto 4, 3) := by decide +kernel
theorem d_M_count_48 : decode c_M_count 48 = .ok (.iconst 1, 1) := by decide +kernel
theorem d_M_count_49 : decode c_M_count 49 = .ok (.imul, 1) := by decide +kernel
theorem d_M_count_50 : decode c_M_count 50 = .ok (.istore 5, 2) := by decide +kernel
theorem d_M_count_52 : decode c_M_count 52 = .ok (.iinc 6 1, 3) := by decide +kernel
theorem d_M_count_55 : decode c_M_count 55 = .ok (.goto (-39), 3) := by decide +kernel
theorem d_M_count_58 : decode c_M_count 58 = .ok (.iconst 0, 1) := by decide +kernel
theorem d_M_count_59 : decode c_M_count 59 = .ok (.istore 6, 2) := by decide +kernel
theorem d_M_count_61 : decode c_M_count 61 = .ok (.iload 6, 2) := by decide +kernel
theorem d_M_count_63 : decode c_M_count 63 = .ok (.iload 5, 2) := by decide +kernel
theorem d_M_count_65 : decode c_M_count 65 = .ok (.if_icmp .ge 226, 3) := by decide +kernel
theorem d_M_count_68 : decode c_M_count 68 = .ok (.iload 6, 2) := by decide +kernel
theorem d_M_count_70 : decode c_M_count 70 = .ok (.istore 7, 2) := by decide +kernel
theorem d_M_count_72 : decode c_M_count 72 = .ok (.lconst 1, 1) := by decide +kernel
theorem d_M_count_73 : decode c_M_count 73 = .ok (.lstore 8, 2) := by decide +kernel
theorem d_M_count_75 : decode c_M_count 75 = .ok (.iconst 0, 1) := by decide +kernel
theorem d_M_count_76 : decode c_M_count 76 = .ok (.istore 10, 2) := by decide +kernel
theorem d_M_count_78 : decode c_M_count 78 = .ok (.iload 10, 2) := by decide +kernel
theorem d_M_count_80 : decode c_M_count 80 = .ok (.aload_n 0, 1) := by decide +kernel
theorem d_M_count_81 : decode c_M_count 81 = .ok (.getfield 48, 3) := by decide +kernel
theorem d_M_count_84 : decode c_M_count 84 = .ok (.if_icmp .ge 88, 3) := by decide +kernel
theorem d_M_count_87 : decode c_M_count 87 = .ok (.iload_n 1, 1) := by decide +kernel
theorem d_M_count_88 : decode c_M_count 88 = .ok (.iload_n 2, 1) := by decide +kernel
theorem d_M_count_89 : decode c_M_count 89 = .ok (.iconst (-1), 1) := by decide +kernel
theorem d_M_count_90 : decode c_M_count 90 = .ok (.ixor, 1) := by decide +kernel
theorem d_M_count_91 : decode c_M_count 91 = .ok (.iand, 1) := by decide +kernel
theorem d_M_count_92 : decode c_M_count 92 = .ok (.iload 10, 2) := by decide +kernel
theorem d_M_count_94 : decode c_M_count 94 = .ok (.ishr, 1) := by decide +kernel
theorem d_M_count_95 : decode c_M_count 95 = .ok (.iconst 1, 1) := by decide +kernel
theorem d_M_count_96 : decode c_M_count 96 = .ok (.iand, 1) := by decide +kernel
theorem d_M_count_97 : decode c_M_count 97 = .ok (.iconst 1, 1) := by decide +kernel
theorem d_M_count_98 : decode c_M_count 98 = .ok (.if_icmp .ne 68, 3) := by decide +kernel
theorem d_M_count_101 : decode c_M_count 101 = .ok (.aload_n 0, 1) := by decide +kernel
theorem d_M_count_102 : decode c_M_count 102 = .ok (.getfield 35, 3) := by decide +kernel
theorem d_M_count_105 : decode c_M_count 105 = .ok (.iload 10, 2) := by decide +kernel
theorem d_M_count_107 : decode c_M_count 107 = .ok (.iload 7, 2) := by decide +kernel
theorem d_M_count_109 : decode c_M_count 109 = .ok (.aload_n 0, 1) := by decide +kernel
theorem d_M_count_110 : decode c_M_count 110 = .ok (.getfield 48, 3) := by decide +kernel
theorem d_M_count_113 : decode c_M_count 113 = .ok (.irem, 1) := by decide +kernel
theorem d_M_count_114 : decode c_M_count 114 = .ok (.iastore, 1) := by decide +kernel
theorem d_M_count_115 : decode c_M_count 115 = .ok (.iload 7, 2) := by decide +kernel
theorem d_M_count_117 : decode c_M_count 117 = .ok (.aload_n 0, 1) := by decide +kernel
theorem d_M_count_118 : decode c_M_count 118 = .ok (.getfield 48, 3) := by decide +kernel
theorem d_M_count_121 : decode c_M_count 121 = .ok (.idiv, 1) := by decide +kernel
theorem d_M_count_122 : decode c_M_count 122 = .ok (.istore 7, 2) := by decide +kernel
theorem d_M_count_124 : decode c_M_count 124 = .ok (.lload 8, 2) := by decide +kernel
theorem d_M_count_126 : decode c_M_count 126 = .ok (.iload_n 1, 1) := by decide +kernel
theorem d_M_count_127 : decode c_M_count 127 = .ok (.aload_n 0, 1) := by decide +kernel
theorem d_M_count_128 : decode c_M_count 128 = .ok (.getfield 35, 3) := by decide +kernel
theorem d_M_count_131 : decode c_M_count 131 = .ok (.iload 10, 2) := by decide +kernel
theorem d_M_count_133 : decode c_M_count 133 = .ok (.iaload, 1) := by decide +kernel
theorem d_M_count_134 : decode c_M_count 134 = .ok (.ishr, 1) := by decide +kernel
theorem d_M_count_135 : decode c_M_count 135 = .ok (.iconst 1, 1) := by decide +kernel
theorem d_M_count_136 : decode c_M_count 136 = .ok (.iand, 1) := by decide +kernel
theorem d_M_count_137 : decode c_M_count 137 = .ok (.iconst 1, 1) := by decide +kernel
theorem d_M_count_138 : decode c_M_count 138 = .ok (.if_icmp .ne 24, 3) := by decide +kernel
theorem d_M_count_141 : decode c_M_count 141 = .ok (.aload_n 0, 1) := by decide +kernel
theorem d_M_count_142 : decode c_M_count 142 = .ok (.getfield 23, 3) := by decide +kernel
theorem d_M_count_145 : decode c_M_count 145 = .ok (.iconst 5, 1) := by decide +kernel
theorem d_M_count_146 : decode c_M_count 146 = .ok (.iload 10, 2) := by decide +kernel
theorem d_M_count_148 : decode c_M_count 148 = .ok (.imul, 1) := by decide +kernel
theorem d_M_count_149 : decode c_M_count 149 = .ok (.aload_n 0, 1) := by decide +kernel
theorem d_M_count_150 : decode c_M_count 150 = .ok (.getfield 35, 3) := by decide +kernel
theorem d_M_count_153 : decode c_M_count 153 = .ok (.iload 10, 2) := by decide +kernel
theorem d_M_count_155 : decode c_M_count 155 = .ok (.iaload, 1) := by decide +kernel
theorem d_M_count_156 : decode c_M_count 156 = .ok (.iadd, 1) := by decide +kernel
theorem d_M_count_157 : decode c_M_count 157 = .ok (.iaload, 1) := by decide +kernel
theorem d_M_count_158 : decode c_M_count 158 = .ok (.i2l, 1) := by decide +kernel
theorem d_M_count_159 : decode c_M_count 159 = .ok (.goto 4, 3) := by decide +kernel
theorem d_M_count_162 : decode c_M_count 162 = .ok (.lconst 0, 1) := by decide +kernel
theorem d_M_count_163 : decode c_M_count 163 = .ok (.lmul, 1) := by decide +kernel
theorem d_M_count_164 : decode c_M_count 164 = .ok (.lstore 8, 2) := by decide +kernel
theorem d_M_count_166 : decode c_M_count 166 = .ok (.iinc 10 1, 3) := by decide +kernel
theorem d_M_count_169 : decode c_M_count 169 = .ok (.goto (-91), 3) := by decide +kernel
theorem d_M_count_172 : decode c_M_count 172 = .ok (.lload 8, 2) := by decide +kernel
theorem d_M_count_174 : decode c_M_count 174 = .ok (.lconst 0, 1) := by decide +kernel
theorem d_M_count_175 : decode c_M_count 175 = .ok (.lcmp, 1) := by decide +kernel
theorem d_M_count_176 : decode c_M_count 176 = .ok (.ifCond .le 7, 3) := by decide +kernel
theorem d_M_count_179 : decode c_M_count 179 = .ok (.iconst 1, 1) := by decide +kernel
theorem d_M_count_180 : decode c_M_count 180 = .ok (.goto 4, 3) := by decide +kernel
theorem d_M_count_183 : decode c_M_count 183 = .ok (.iconst 0, 1) := by decide +kernel
theorem d_M_count_184 : decode c_M_count 184 = .ok (.istore 10, 2) := by decide +kernel
theorem d_M_count_186 : decode c_M_count 186 = .ok (.iconst 0, 1) := by decide +kernel
theorem d_M_count_187 : decode c_M_count 187 = .ok (.istore 11, 2) := by decide +kernel
theorem d_M_count_189 : decode c_M_count 189 = .ok (.iload 11, 2) := by decide +kernel
theorem d_M_count_191 : decode c_M_count 191 = .ok (.aload_n 0, 1) := by decide +kernel
theorem d_M_count_192 : decode c_M_count 192 = .ok (.getfield 48, 3) := by decide +kernel
theorem d_M_count_195 : decode c_M_count 195 = .ok (.if_icmp .ge 44, 3) := by decide +kernel
theorem d_M_count_198 : decode c_M_count 198 = .ok (.iload 10, 2) := by decide +kernel
theorem d_M_count_200 : decode c_M_count 200 = .ok (.ifCond .eq 39, 3) := by decide +kernel
theorem d_M_count_203 : decode c_M_count 203 = .ok (.iload_n 1, 1) := by decide +kernel
theorem d_M_count_204 : decode c_M_count 204 = .ok (.iload_n 2, 1) := by decide +kernel
theorem d_M_count_205 : decode c_M_count 205 = .ok (.iconst (-1), 1) := by decide +kernel
theorem d_M_count_206 : decode c_M_count 206 = .ok (.ixor, 1) := by decide +kernel
theorem d_M_count_207 : decode c_M_count 207 = .ok (.iand, 1) := by decide +kernel
theorem d_M_count_208 : decode c_M_count 208 = .ok (.iload 11, 2) := by decide +kernel
theorem d_M_count_210 : decode c_M_count 210 = .ok (.ishr, 1) := by decide +kernel
theorem d_M_count_211 : decode c_M_count 211 = .ok (.iconst 1, 1) := by decide +kernel
theorem d_M_count_212 : decode c_M_count 212 = .ok (.iand, 1) := by decide +kernel
theorem d_M_count_213 : decode c_M_count 213 = .ok (.ifCond .eq 13, 3) := by decide +kernel
theorem d_M_count_216 : decode c_M_count 216 = .ok (.aload_n 0, 1) := by decide +kernel
theorem d_M_count_217 : decode c_M_count 217 = .ok (.iload 11, 2) := by decide +kernel
theorem d_M_count_219 : decode c_M_count 219 = .ok (.iload_n 2, 1) := by decide +kernel
theorem d_M_count_220 : decode c_M_count 220 = .ok (.invokevirtual 86, 3) := by decide +kernel
theorem d_M_count_223 : decode c_M_count 223 = .ok (.ifCond .lt 7, 3) := by decide +kernel
theorem d_M_count_226 : decode c_M_count 226 = .ok (.iconst 1, 1) := by decide +kernel
theorem d_M_count_227 : decode c_M_count 227 = .ok (.goto 4, 3) := by decide +kernel
theorem d_M_count_230 : decode c_M_count 230 = .ok (.iconst 0, 1) := by decide +kernel
theorem d_M_count_231 : decode c_M_count 231 = .ok (.istore 10, 2) := by decide +kernel
theorem d_M_count_233 : decode c_M_count 233 = .ok (.iinc 11 1, 3) := by decide +kernel
theorem d_M_count_236 : decode c_M_count 236 = .ok (.goto (-47), 3) := by decide +kernel
theorem d_M_count_239 : decode c_M_count 239 = .ok (.iload 10, 2) := by decide +kernel
theorem d_M_count_241 : decode c_M_count 241 = .ok (.ifCond .eq 44, 3) := by decide +kernel
theorem d_M_count_244 : decode c_M_count 244 = .ok (.aload_n 0, 1) := by decide +kernel
theorem d_M_count_245 : decode c_M_count 245 = .ok (.dup, 1) := by decide +kernel
theorem d_M_count_246 : decode c_M_count 246 = .ok (.getfield 79, 3) := by decide +kernel
theorem d_M_count_249 : decode c_M_count 249 = .ok (.lload 8, 2) := by decide +kernel
theorem d_M_count_251 : decode c_M_count 251 = .ok (.ladd, 1) := by decide +kernel
theorem d_M_count_252 : decode c_M_count 252 = .ok (.putfield 79, 3) := by decide +kernel
theorem d_M_count_255 : decode c_M_count 255 = .ok (.aload_n 0, 1) := by decide +kernel
theorem d_M_count_256 : decode c_M_count 256 = .ok (.dup, 1) := by decide +kernel
theorem d_M_count_257 : decode c_M_count 257 = .ok (.getfield 83, 3) := by decide +kernel
theorem d_M_count_260 : decode c_M_count 260 = .ok (.iload 4, 2) := by decide +kernel
theorem d_M_count_262 : decode c_M_count 262 = .ok (.aload_n 0, 1) := by decide +kernel
theorem d_M_count_263 : decode c_M_count 263 = .ok (.iload_n 3, 1) := by decide +kernel
theorem d_M_count_264 : decode c_M_count 264 = .ok (.iload_n 2, 1) := by decide +kernel
theorem d_M_count_265 : decode c_M_count 265 = .ok (.invokevirtual 86, 3) := by decide +kernel
theorem d_M_count_268 : decode c_M_count 268 = .ok (.ishr, 1) := by decide +kernel
theorem d_M_count_269 : decode c_M_count 269 = .ok (.iconst 1, 1) := by decide +kernel
theorem d_M_count_270 : decode c_M_count 270 = .ok (.iand, 1) := by decide +kernel
theorem d_M_count_271 : decode c_M_count 271 = .ok (.iconst 1, 1) := by decide +kernel
theorem d_M_count_272 : decode c_M_count 272 = .ok (.if_icmp .ne 8, 3) := by decide +kernel
theorem d_M_count_275 : decode c_M_count 275 = .ok (.lload 8, 2) := by decide +kernel
theorem d_M_count_277 : decode c_M_count 277 = .ok (.goto 4, 3) := by decide +kernel
theorem d_M_count_280 : decode c_M_count 280 = .ok (.lconst 0, 1) := by decide +kernel
theorem d_M_count_281 : decode c_M_count 281 = .ok (.ladd, 1) := by decide +kernel
theorem d_M_count_282 : decode c_M_count 282 = .ok (.putfield 83, 3) := by decide +kernel
theorem d_M_count_285 : decode c_M_count 285 = .ok (.iinc 6 1, 3) := by decide +kernel
theorem d_M_count_288 : decode c_M_count 288 = .ok (.goto (-227), 3) := by decide +kernel
theorem d_M_count_291 : decode c_M_count 291 = .ok (.return_, 1) := by decide +kernel
theorem d_M_rootOf_0 : decode c_M_rootOf 0 = .ok (.iload_n 1, 1) := by decide +kernel
theorem d_M_rootOf_1 : decode c_M_rootOf 1 = .ok (.istore_n 3, 1) := by decide +kernel
theorem d_M_rootOf_2 : decode c_M_rootOf 2 = .ok (.iconst 0, 1) := by decide +kernel
theorem d_M_rootOf_3 : decode c_M_rootOf 3 = .ok (.istore 4, 2) := by decide +kernel
theorem d_M_rootOf_5 : decode c_M_rootOf 5 = .ok (.iload 4, 2) := by decide +kernel
theorem d_M_rootOf_7 : decode c_M_rootOf 7 = .ok (.bipush 6, 2) := by decide +kernel
theorem d_M_rootOf_9 : decode c_M_rootOf 9 = .ok (.if_icmp .ge 27, 3) := by decide +kernel
theorem d_M_rootOf_12 : decode c_M_rootOf 12 = .ok (.iload_n 2, 1) := by decide +kernel
theorem d_M_rootOf_13 : decode c_M_rootOf 13 = .ok (.iload_n 3, 1) := by decide +kernel
theorem d_M_rootOf_14 : decode c_M_rootOf 14 = .ok (.ishr, 1) := by decide +kernel
theorem d_M_rootOf_15 : decode c_M_rootOf 15 = .ok (.iconst 1, 1) := by decide +kernel
theorem d_M_rootOf_16 : decode c_M_rootOf 16 = .ok (.iand, 1) := by decide +kernel
theorem d_M_rootOf_17 : decode c_M_rootOf 17 = .ok (.iconst 1, 1) := by decide +kernel
theorem d_M_rootOf_18 : decode c_M_rootOf 18 = .ok (.if_icmp .ne 5, 3) := by decide +kernel
theorem d_M_rootOf_21 : decode c_M_rootOf 21 = .ok (.iload_n 3, 1) := by decide +kernel
theorem d_M_rootOf_22 : decode c_M_rootOf 22 = .ok (.ireturn, 1) := by decide +kernel
theorem d_M_rootOf_23 : decode c_M_rootOf 23 = .ok (.aload_n 0, 1) := by decide +kernel
theorem d_M_rootOf_24 : decode c_M_rootOf 24 = .ok (.getfield 35, 3) := by decide +kernel
theorem d_M_rootOf_27 : decode c_M_rootOf 27 = .ok (.iload_n 3, 1) := by decide +kernel
theorem d_M_rootOf_28 : decode c_M_rootOf 28 = .ok (.iaload, 1) := by decide +kernel
theorem d_M_rootOf_29 : decode c_M_rootOf 29 = .ok (.istore_n 3, 1) := by decide +kernel
theorem d_M_rootOf_30 : decode c_M_rootOf 30 = .ok (.iinc 4 1, 3) := by decide +kernel
theorem d_M_rootOf_33 : decode c_M_rootOf 33 = .ok (.goto (-28), 3) := by decide +kernel
theorem d_M_rootOf_36 : decode c_M_rootOf 36 = .ok (.iconst (-1), 1) := by decide +kernel
theorem d_M_rootOf_37 : decode c_M_rootOf 37 = .ok (.ireturn, 1) := by decide +kernel
theorem d_M_lowest_0 : decode c_M_lowest 0 = .ok (.lload_n 0, 1) := by decide +kernel
theorem d_M_lowest_1 : decode c_M_lowest 1 = .ok (.lload_n 2, 1) := by decide +kernel
theorem d_M_lowest_2 : decode c_M_lowest 2 = .ok (.invokestatic 55, 3) := by decide +kernel
theorem d_M_lowest_5 : decode c_M_lowest 5 = .ok (.lstore 5, 2) := by decide +kernel
theorem d_M_lowest_7 : decode c_M_lowest 7 = .ok (.iload 4, 2) := by decide +kernel
theorem d_M_lowest_9 : decode c_M_lowest 9 = .ok (.ifCond .ne 10, 3) := by decide +kernel
theorem d_M_lowest_12 : decode c_M_lowest 12 = .ok (.lload_n 0, 1) := by decide +kernel
theorem d_M_lowest_13 : decode c_M_lowest 13 = .ok (.lload 5, 2) := by decide +kernel
theorem d_M_lowest_15 : decode c_M_lowest 15 = .ok (.ldiv, 1) := by decide +kernel
theorem d_M_lowest_16 : decode c_M_lowest 16 = .ok (.goto 7, 3) := by decide +kernel
theorem d_M_lowest_19 : decode c_M_lowest 19 = .ok (.lload_n 2, 1) := by decide +kernel
theorem d_M_lowest_20 : decode c_M_lowest 20 = .ok (.lload 5, 2) := by decide +kernel
theorem d_M_lowest_22 : decode c_M_lowest 22 = .ok (.ldiv, 1) := by decide +kernel
theorem d_M_lowest_23 : decode c_M_lowest 23 = .ok (.lreturn, 1) := by decide +kernel
theorem d_M_place_0 : decode c_M_place 0 = .ok (.aload_n 0, 1) := by decide +kernel
theorem d_M_place_1 : decode c_M_place 1 = .ok (.iload_n 1, 1) := by decide +kernel
theorem d_M_place_2 : decode c_M_place 2 = .ok (.invokevirtual 51, 3) := by decide +kernel
theorem d_M_place_5 : decode c_M_place 5 = .ok (.ifCond .ne 5, 3) := by decide +kernel
theorem d_M_place_8 : decode c_M_place 8 = .ok (.iconst (-1), 1) := by decide +kernel
theorem d_M_place_9 : decode c_M_place 9 = .ok (.ireturn, 1) := by decide +kernel
theorem d_M_place_10 : decode c_M_place 10 = .ok (.aload_n 0, 1) := by decide +kernel
theorem d_M_place_11 : decode c_M_place 11 = .ok (.invokevirtual 76, 3) := by decide +kernel
theorem d_M_place_14 : decode c_M_place 14 = .ok (.aload_n 0, 1) := by decide +kernel
theorem d_M_place_15 : decode c_M_place 15 = .ok (.getfield 70, 3) := by decide +kernel
theorem d_M_place_18 : decode c_M_place 18 = .ok (.iconst 1, 1) := by decide +kernel
theorem d_M_place_19 : decode c_M_place 19 = .ok (.if_icmp .eq 6, 3) := by decide +kernel
theorem d_M_place_22 : decode c_M_place 22 = .ok (.bipush (-3), 2) := by decide +kernel
theorem d_M_place_24 : decode c_M_place 24 = .ok (.ireturn, 1) := by decide +kernel
theorem d_M_place_25 : decode c_M_place 25 = .ok (.aload_n 0, 1) := by decide +kernel
theorem d_M_place_26 : decode c_M_place 26 = .ok (.aload_n 0, 1) := by decide +kernel
theorem d_M_place_27 : decode c_M_place 27 = .ok (.getfield 32, 3) := by decide +kernel
theorem d_M_place_30 : decode c_M_place 30 = .ok (.iconst 0, 1) := by decide +kernel
theorem d_M_place_31 : decode c_M_place 31 = .ok (.iaload, 1) := by decide +kernel
theorem d_M_place_32 : decode c_M_place 32 = .ok (.invokevirtual 105, 3) := by decide +kernel
theorem d_M_place_35 : decode c_M_place 35 = .ok (.iconst 0, 1) := by decide +kernel
theorem d_M_place_36 : decode c_M_place 36 = .ok (.istore_n 2, 1) := by decide +kernel
theorem d_M_place_37 : decode c_M_place 37 = .ok (.iload_n 2, 1) := by decide +kernel
theorem d_M_place_38 : decode c_M_place 38 = .ok (.aload_n 0, 1) := by decide +kernel
theorem d_M_place_39 : decode c_M_place 39 = .ok (.getfield 48, 3) := by decide +kernel
theorem d_M_place_42 : decode c_M_place 42 = .ok (.if_icmp .ge 84, 3) := by decide +kernel
theorem d_M_place_45 : decode c_M_place 45 = .ok (.iconst 0, 1) := by decide +kernel
theorem d_M_place_46 : decode c_M_place 46 = .ok (.istore_n 3, 1) := by decide +kernel
theorem d_M_place_47 : decode c_M_place 47 = .ok (.iconst 0, 1) := by decide +kernel
theorem d_M_place_48 : decode c_M_place 48 = .ok (.istore 4, 2) := by decide +kernel
theorem d_M_place_50 : decode c_M_place 50 = .ok (.iload 4, 2) := by decide +kernel
theorem d_M_place_52 : decode c_M_place 52 = .ok (.aload_n 0, 1) := by decide +kernel
theorem d_M_place_53 : decode c_M_place 53 = .ok (.getfield 48, 3) := by decide +kernel
theorem d_M_place_56 : decode c_M_place 56 = .ok (.if_icmp .ge 57, 3) := by decide +kernel
theorem d_M_place_59 : decode c_M_place 59 = .ok (.iload_n 3, 1) := by decide +kernel
theorem d_M_place_60 : decode c_M_place 60 = .ok (.aload_n 0, 1) := by decide +kernel
theorem d_M_place_61 : decode c_M_place 61 = .ok (.getfield 38, 3) := by decide +kernel
theorem d_M_place_64 : decode c_M_place 64 = .ok (.iload 4, 2) := by decide +kernel
theorem d_M_place_66 : decode c_M_place 66 = .ok (.laload, 1) := by decide +kernel
theorem d_M_place_67 : decode c_M_place 67 = .ok (.aload_n 0, 1) := by decide +kernel
theorem d_M_place_68 : decode c_M_place 68 = .ok (.getfield 38, 3) := by decide +kernel
theorem d_M_place_71 : decode c_M_place 71 = .ok (.iload_n 2, 1) := by decide +kernel
theorem d_M_place_72 : decode c_M_place 72 = .ok (.laload, 1) := by decide +kernel
theorem d_M_place_73 : decode c_M_place 73 = .ok (.lcmp, 1) := by decide +kernel
theorem d_M_place_74 : decode c_M_place 74 = .ok (.ifCond .gt 26, 3) := by decide +kernel
theorem d_M_place_77 : decode c_M_place 77 = .ok (.aload_n 0, 1) := by decide +kernel
theorem d_M_place_78 : decode c_M_place 78 = .ok (.getfield 38, 3) := by decide +kernel
theorem d_M_place_81 : decode c_M_place 81 = .ok (.iload 4, 2) := by decide +kernel
theorem d_M_place_83 : decode c_M_place 83 = .ok (.laload, 1) := by decide +kernel
theorem d_M_place_84 : decode c_M_place 84 = .ok (.aload_n 0, 1) := by decide +kernel
theorem d_M_place_85 : decode c_M_place 85 = .ok (.getfield 38, 3) := by decide +kernel
theorem d_M_place_88 : decode c_M_place 88 = .ok (.iload_n 2, 1) := by decide +kernel
theorem d_M_place_89 : decode c_M_place 89 = .ok (.laload, 1) := by decide +kernel
theorem d_M_place_90 : decode c_M_place 90 = .ok (.lcmp, 1) := by decide +kernel
theorem d_M_place_91 : decode c_M_place 91 = .ok (.ifCond .ne 13, 3) := by decide +kernel
theorem d_M_place_94 : decode c_M_place 94 = .ok (.iload 4, 2) := by decide +kernel
theorem d_M_place_96 : decode c_M_place 96 = .ok (.iload_n 2, 1) := by decide +kernel
theorem d_M_place_97 : decode c_M_place 97 = .ok (.if_icmp .ge 7, 3) := by decide +kernel
theorem d_M_place_100 : decode c_M_place 100 = .ok (.iconst 1, 1) := by decide +kernel
theorem d_M_place_101 : decode c_M_place 101 = .ok (.goto 4, 3) := by decide +kernel
theorem d_M_place_104 : decode c_M_place 104 = .ok (.iconst 0, 1) := by decide +kernel
theorem d_M_place_105 : decode c_M_place 105 = .ok (.iadd, 1) := by decide +kernel
theorem d_M_place_106 : decode c_M_place 106 = .ok (.istore_n 3, 1) := by decide +kernel
theorem d_M_place_107 : decode c_M_place 107 = .ok (.iinc 4 1, 3) := by decide +kernel
theorem d_M_place_110 : decode c_M_place 110 = .ok (.goto (-60), 3) := by decide +kernel
theorem d_M_place_113 : decode c_M_place 113 = .ok (.iload_n 3, 1) := by decide +kernel
theorem d_M_place_114 : decode c_M_place 114 = .ok (.iload_n 1, 1) := by decide +kernel
theorem d_M_place_115 : decode c_M_place 115 = .ok (.if_icmp .ne 5, 3) := by decide +kernel
theorem d_M_place_118 : decode c_M_place 118 = .ok (.iload_n 2, 1) := by decide +kernel
theorem d_M_place_119 : decode c_M_place 119 = .ok (.ireturn, 1) := by decide +kernel
theorem d_M_place_120 : decode c_M_place 120 = .ok (.iinc 2 1, 3) := by decide +kernel
theorem d_M_place_123 : decode c_M_place 123 = .ok (.goto (-86), 3) := by decide +kernel
theorem d_M_place_126 : decode c_M_place 126 = .ok (.iconst (-1), 1) := by decide +kernel
theorem d_M_place_127 : decode c_M_place 127 = .ok (.ireturn, 1) := by decide +kernel
theorem d_M_reach_0 : decode c_M_reach 0 = .ok (.aload_n 0, 1) := by decide +kernel
theorem d_M_reach_1 : decode c_M_reach 1 = .ok (.iload_n 1, 1) := by decide +kernel
theorem d_M_reach_2 : decode c_M_reach 2 = .ok (.invokevirtual 51, 3) := by decide +kernel
theorem d_M_reach_5 : decode c_M_reach 5 = .ok (.ifCond .eq 11, 3) := by decide +kernel
theorem d_M_reach_8 : decode c_M_reach 8 = .ok (.aload_n 0, 1) := by decide +kernel
theorem d_M_reach_9 : decode c_M_reach 9 = .ok (.iload_n 2, 1) := by decide +kernel
theorem d_M_reach_10 : decode c_M_reach 10 = .ok (.invokevirtual 51, 3) := by decide +kernel
theorem d_M_reach_13 : decode c_M_reach 13 = .ok (.ifCond .ne 7, 3) := by decide +kernel
theorem d_M_reach_16 : decode c_M_reach 16 = .ok (.ldc2_w 96, 3) := by decide +kernel
theorem d_M_reach_19 : decode c_M_reach 19 = .ok (.lreturn, 1) := by decide +kernel
theorem d_M_reach_20 : decode c_M_reach 20 = .ok (.iload_n 3, 1) := by decide +kernel
theorem d_M_reach_21 : decode c_M_reach 21 = .ok (.invokestatic 98, 3) := by decide +kernel
theorem d_M_reach_24 : decode c_M_reach 24 = .ok (.ifCond .ne 7, 3) := by decide +kernel
theorem d_M_reach_27 : decode c_M_reach 27 = .ok (.ldc2_w 101, 3) := by decide +kernel
theorem d_M_reach_30 : decode c_M_reach 30 = .ok (.lreturn, 1) := by decide +kernel
theorem d_M_reach_31 : decode c_M_reach 31 = .ok (.aload_n 0, 1) := by decide +kernel
theorem d_M_reach_32 : decode c_M_reach 32 = .ok (.invokevirtual 59, 3) := by decide +kernel
theorem d_M_reach_35 : decode c_M_reach 35 = .ok (.iconst 1, 1) := by decide +kernel
theorem d_M_reach_36 : decode c_M_reach 36 = .ok (.iload_n 2, 1) := by decide +kernel
theorem d_M_reach_37 : decode c_M_reach 37 = .ok (.ishl, 1) := by decide +kernel
theorem d_M_reach_38 : decode c_M_reach 38 = .ok (.istore 4, 2) := by decide +kernel
theorem d_M_reach_40 : decode c_M_reach 40 = .ok (.iconst 0, 1) := by decide +kernel
theorem d_M_reach_41 : decode c_M_reach 41 = .ok (.istore 5, 2) := by decide +kernel
theorem d_M_reach_43 : decode c_M_reach 43 = .ok (.iload 5, 2) := by decide +kernel
theorem d_M_reach_45 : decode c_M_reach 45 = .ok (.aload_n 0, 1) := by decide +kernel
theorem d_M_reach_46 : decode c_M_reach 46 = .ok (.getfield 48, 3) := by decide +kernel
theorem d_M_reach_49 : decode c_M_reach 49 = .ok (.if_icmp .ge 32, 3) := by decide +kernel
theorem d_M_reach_52 : decode c_M_reach 52 = .ok (.iload 4, 2) := by decide +kernel
theorem d_M_reach_54 : decode c_M_reach 54 = .ok (.aload_n 0, 1) := by decide +kernel
theorem d_M_reach_55 : decode c_M_reach 55 = .ok (.iload 5, 2) := by decide +kernel
theorem d_M_reach_57 : decode c_M_reach 57 = .ok (.iload_n 2, 1) := by decide +kernel
theorem d_M_reach_58 : decode c_M_reach 58 = .ok (.invokevirtual 66, 3) := by decide +kernel
theorem d_M_reach_61 : decode c_M_reach 61 = .ok (.ifCond .eq 7, 3) := by decide +kernel
theorem d_M_reach_64 : decode c_M_reach 64 = .ok (.iconst 0, 1) := by decide +kernel
theorem d_M_reach_65 : decode c_M_reach 65 = .ok (.goto 7, 3) := by decide +kernel
theorem d_M_reach_68 : decode c_M_reach 68 = .ok (.iconst 1, 1) := by decide +kernel
theorem d_M_reach_69 : decode c_M_reach 69 = .ok (.iload 5, 2) := by decide +kernel
theorem d_M_reach_71 : decode c_M_reach 71 = .ok (.ishl, 1) := by decide +kernel
theorem d_M_reach_72 : decode c_M_reach 72 = .ok (.ior, 1) := by decide +kernel
theorem d_M_reach_73 : decode c_M_reach 73 = .ok (.istore 4, 2) := by decide +kernel
theorem d_M_reach_75 : decode c_M_reach 75 = .ok (.iinc 5 1, 3) := by decide +kernel
theorem d_M_reach_78 : decode c_M_reach 78 = .ok (.goto (-35), 3) := by decide +kernel
theorem d_M_reach_81 : decode c_M_reach 81 = .ok (.aload_n 0, 1) := by decide +kernel
theorem d_M_reach_82 : decode c_M_reach 82 = .ok (.aload_n 0, 1) := by decide +kernel
theorem d_M_reach_83 : decode c_M_reach 83 = .ok (.invokevirtual 113, 3) := by decide +kernel
theorem d_M_reach_86 : decode c_M_reach 86 = .ok (.iload 4, 2) := by decide +kernel
theorem d_M_reach_88 : decode c_M_reach 88 = .ok (.iload_n 1, 1) := by decide +kernel
theorem d_M_reach_89 : decode c_M_reach 89 = .ok (.iconst 1, 1) := by decide +kernel
theorem d_M_reach_90 : decode c_M_reach 90 = .ok (.iload_n 2, 1) := by decide +kernel
theorem d_M_reach_91 : decode c_M_reach 91 = .ok (.ishl, 1) := by decide +kernel
theorem d_M_reach_92 : decode c_M_reach 92 = .ok (.invokevirtual 92, 3) := by decide +kernel
theorem d_M_reach_95 : decode c_M_reach 95 = .ok (.aload_n 0, 1) := by decide +kernel
theorem d_M_reach_96 : decode c_M_reach 96 = .ok (.getfield 83, 3) := by decide +kernel
theorem d_M_reach_99 : decode c_M_reach 99 = .ok (.aload_n 0, 1) := by decide +kernel
theorem d_M_reach_100 : decode c_M_reach 100 = .ok (.getfield 79, 3) := by decide +kernel
theorem d_M_reach_103 : decode c_M_reach 103 = .ok (.iload_n 3, 1) := by decide +kernel
theorem d_M_reach_104 : decode c_M_reach 104 = .ok (.invokestatic 109, 3) := by decide +kernel
theorem d_M_reach_107 : decode c_M_reach 107 = .ok (.lreturn, 1) := by decide +kernel
theorem d_M_all_0 : decode c_M_all 0 = .ok (.iconst 1, 1) := by decide +kernel
theorem d_M_all_1 : decode c_M_all 1 = .ok (.aload_n 0, 1) := by decide +kernel
theorem d_M_all_2 : decode c_M_all 2 = .ok (.getfield 48, 3) := by decide +kernel
theorem d_M_all_5 : decode c_M_all 5 = .ok (.ishl, 1) := by decide +kernel
theorem d_M_all_6 : decode c_M_all 6 = .ok (.iconst 1, 1) := by decide +kernel
theorem d_M_all_7 : decode c_M_all 7 = .ok (.isub, 1) := by decide +kernel
theorem d_M_all_8 : decode c_M_all 8 = .ok (.ireturn, 1) := by decide +kernel
theorem d_M_hit_0 : decode c_M_hit 0 = .ok (.aload_n 0, 1) := by decide +kernel
theorem d_M_hit_1 : decode c_M_hit 1 = .ok (.iload_n 1, 1) := by decide +kernel
theorem d_M_hit_2 : decode c_M_hit 2 = .ok (.invokevirtual 51, 3) := by decide +kernel
theorem d_M_hit_5 : decode c_M_hit 5 = .ok (.ifCond .eq 11, 3) := by decide +kernel
theorem d_M_hit_8 : decode c_M_hit 8 = .ok (.aload_n 0, 1) := by decide +kernel
theorem d_M_hit_9 : decode c_M_hit 9 = .ok (.iload_n 2, 1) := by decide +kernel
theorem d_M_hit_10 : decode c_M_hit 10 = .ok (.invokevirtual 51, 3) := by decide +kernel
theorem d_M_hit_13 : decode c_M_hit 13 = .ok (.ifCond .ne 7, 3) := by decide +kernel
theorem d_M_hit_16 : decode c_M_hit 16 = .ok (.ldc2_w 96, 3) := by decide +kernel
theorem d_M_hit_19 : decode c_M_hit 19 = .ok (.lreturn, 1) := by decide +kernel
theorem d_M_hit_20 : decode c_M_hit 20 = .ok (.iload_n 3, 1) := by decide +kernel
theorem d_M_hit_21 : decode c_M_hit 21 = .ok (.invokestatic 98, 3) := by decide +kernel
theorem d_M_hit_24 : decode c_M_hit 24 = .ok (.ifCond .ne 7, 3) := by decide +kernel
theorem d_M_hit_27 : decode c_M_hit 27 = .ok (.ldc2_w 101, 3) := by decide +kernel
theorem d_M_hit_30 : decode c_M_hit 30 = .ok (.lreturn, 1) := by decide +kernel
theorem d_M_hit_31 : decode c_M_hit 31 = .ok (.aload_n 0, 1) := by decide +kernel
theorem d_M_hit_32 : decode c_M_hit 32 = .ok (.invokevirtual 59, 3) := by decide +kernel
theorem d_M_hit_35 : decode c_M_hit 35 = .ok (.aload_n 0, 1) := by decide +kernel
theorem d_M_hit_36 : decode c_M_hit 36 = .ok (.iload_n 1, 1) := by decide +kernel
theorem d_M_hit_37 : decode c_M_hit 37 = .ok (.iload_n 2, 1) := by decide +kernel
theorem d_M_hit_38 : decode c_M_hit 38 = .ok (.invokevirtual 62, 3) := by decide +kernel
theorem d_M_hit_41 : decode c_M_hit 41 = .ok (.istore 4, 2) := by decide +kernel
theorem d_M_hit_43 : decode c_M_hit 43 = .ok (.iconst 1, 1) := by decide +kernel
theorem d_M_hit_44 : decode c_M_hit 44 = .ok (.istore 5, 2) := by decide +kernel
theorem d_M_hit_46 : decode c_M_hit 46 = .ok (.iconst 0, 1) := by decide +kernel
theorem d_M_hit_47 : decode c_M_hit 47 = .ok (.istore 6, 2) := by decide +kernel
theorem d_M_hit_49 : decode c_M_hit 49 = .ok (.iload 6, 2) := by decide +kernel
theorem d_M_hit_51 : decode c_M_hit 51 = .ok (.aload_n 0, 1) := by decide +kernel
theorem d_M_hit_52 : decode c_M_hit 52 = .ok (.getfield 48, 3) := by decide +kernel
theorem d_M_hit_55 : decode c_M_hit 55 = .ok (.if_icmp .ge 41, 3) := by decide +kernel
theorem d_M_hit_58 : decode c_M_hit 58 = .ok (.iload 5, 2) := by decide +kernel
theorem d_M_hit_60 : decode c_M_hit 60 = .ok (.ifCond .eq 27, 3) := by decide +kernel
theorem d_M_hit_63 : decode c_M_hit 63 = .ok (.iload 4, 2) := by decide +kernel
theorem d_M_hit_65 : decode c_M_hit 65 = .ok (.iload 6, 2) := by decide +kernel
theorem d_M_hit_67 : decode c_M_hit 67 = .ok (.ishr, 1) := by decide +kernel
theorem d_M_hit_68 : decode c_M_hit 68 = .ok (.iconst 1, 1) := by decide +kernel
theorem d_M_hit_69 : decode c_M_hit 69 = .ok (.iand, 1) := by decide +kernel
theorem d_M_hit_70 : decode c_M_hit 70 = .ok (.ifCond .eq 13, 3) := by decide +kernel
theorem d_M_hit_73 : decode c_M_hit 73 = .ok (.aload_n 0, 1) := by decide +kernel
theorem d_M_hit_74 : decode c_M_hit 74 = .ok (.iload 6, 2) := by decide +kernel
theorem d_M_hit_76 : decode c_M_hit 76 = .ok (.iload_n 2, 1) := by decide +kernel
theorem d_M_hit_77 : decode c_M_hit 77 = .ok (.invokevirtual 66, 3) := by decide +kernel
theorem d_M_hit_80 : decode c_M_hit 80 = .ok (.ifCond .eq 7, 3) := by decide +kernel
theorem d_M_hit_83 : decode c_M_hit 83 = .ok (.iconst 1, 1) := by decide +kernel
theorem d_M_hit_84 : decode c_M_hit 84 = .ok (.goto 4, 3) := by decide +kernel
theorem d_M_hit_87 : decode c_M_hit 87 = .ok (.iconst 0, 1) := by decide +kernel
theorem d_M_hit_88 : decode c_M_hit 88 = .ok (.istore 5, 2) := by decide +kernel
theorem d_M_hit_90 : decode c_M_hit 90 = .ok (.iinc 6 1, 3) := by decide +kernel
theorem d_M_hit_93 : decode c_M_hit 93 = .ok (.goto (-44), 3) := by decide +kernel
theorem d_M_hit_96 : decode c_M_hit 96 = .ok (.iload 5, 2) := by decide +kernel
theorem d_M_hit_98 : decode c_M_hit 98 = .ok (.ifCond .ne 7, 3) := by decide +kernel
theorem d_M_hit_101 : decode c_M_hit 101 = .ok (.ldc2_w 103, 3) := by decide +kernel
theorem d_M_hit_104 : decode c_M_hit 104 = .ok (.lreturn, 1) := by decide +kernel
theorem d_M_hit_105 : decode c_M_hit 105 = .ok (.iload_n 1, 1) := by decide +kernel
theorem d_M_hit_106 : decode c_M_hit 106 = .ok (.iload_n 2, 1) := by decide +kernel
theorem d_M_hit_107 : decode c_M_hit 107 = .ok (.if_icmp .ne 6, 3) := by decide +kernel
theorem d_M_hit_110 : decode c_M_hit 110 = .ok (.iload_n 3, 1) := by decide +kernel
theorem d_M_hit_111 : decode c_M_hit 111 = .ok (.i2l, 1) := by decide +kernel
theorem d_M_hit_112 : decode c_M_hit 112 = .ok (.lreturn, 1) := by decide +kernel
theorem d_M_hit_113 : decode c_M_hit 113 = .ok (.lconst 0, 1) := by decide +kernel
theorem d_M_hit_114 : decode c_M_hit 114 = .ok (.lstore 6, 2) := by decide +kernel
theorem d_M_hit_116 : decode c_M_hit 116 = .ok (.iconst 0, 1) := by decide +kernel
theorem d_M_hit_117 : decode c_M_hit 117 = .ok (.istore 8, 2) := by decide +kernel
theorem d_M_hit_119 : decode c_M_hit 119 = .ok (.iload 8, 2) := by decide +kernel
theorem d_M_hit_121 : decode c_M_hit 121 = .ok (.aload_n 0, 1) := by decide +kernel
theorem d_M_hit_122 : decode c_M_hit 122 = .ok (.getfield 48, 3) := by decide +kernel
theorem d_M_hit_125 : decode c_M_hit 125 = .ok (.if_icmp .ge 63, 3) := by decide +kernel
theorem d_M_hit_128 : decode c_M_hit 128 = .ok (.iload 4, 2) := by decide +kernel
theorem d_M_hit_130 : decode c_M_hit 130 = .ok (.iload 8, 2) := by decide +kernel
theorem d_M_hit_132 : decode c_M_hit 132 = .ok (.ishr, 1) := by decide +kernel
theorem d_M_hit_133 : decode c_M_hit 133 = .ok (.iconst 1, 1) := by decide +kernel
theorem d_M_hit_134 : decode c_M_hit 134 = .ok (.iand, 1) := by decide +kernel
theorem d_M_hit_135 : decode c_M_hit 135 = .ok (.iconst 1, 1) := by decide +kernel
theorem d_M_hit_136 : decode c_M_hit 136 = .ok (.if_icmp .ne 46, 3) := by decide +kernel
theorem d_M_hit_139 : decode c_M_hit 139 = .ok (.iload 8, 2) := by decide +kernel
theorem d_M_hit_141 : decode c_M_hit 141 = .ok (.iload_n 2, 1) := by decide +kernel
theorem d_M_hit_142 : decode c_M_hit 142 = .ok (.if_icmp .eq 40, 3) := by decide +kernel
theorem d_M_hit_145 : decode c_M_hit 145 = .ok (.aload_n 0, 1) := by decide +kernel
theorem d_M_hit_146 : decode c_M_hit 146 = .ok (.iload 4, 2) := by decide +kernel
theorem d_M_hit_148 : decode c_M_hit 148 = .ok (.iconst 1, 1) := by decide +kernel
theorem d_M_hit_149 : decode c_M_hit 149 = .ok (.iload_n 2, 1) := by decide +kernel
theorem d_M_hit_150 : decode c_M_hit 150 = .ok (.ishl, 1) := by decide +kernel
theorem d_M_hit_151 : decode c_M_hit 151 = .ok (.iconst 1, 1) := by decide +kernel
theorem d_M_hit_152 : decode c_M_hit 152 = .ok (.iload 8, 2) := by decide +kernel
theorem d_M_hit_154 : decode c_M_hit 154 = .ok (.ishl, 1) := by decide +kernel
theorem d_M_hit_155 : decode c_M_hit 155 = .ok (.ior, 1) := by decide +kernel
theorem d_M_hit_156 : decode c_M_hit 156 = .ok (.iload_n 1, 1) := by decide +kernel
theorem d_M_hit_157 : decode c_M_hit 157 = .ok (.iconst 1, 1) := by decide +kernel
theorem d_M_hit_158 : decode c_M_hit 158 = .ok (.iload 8, 2) := by decide +kernel
theorem d_M_hit_160 : decode c_M_hit 160 = .ok (.ishl, 1) := by decide +kernel
theorem d_M_hit_161 : decode c_M_hit 161 = .ok (.invokevirtual 92, 3) := by decide +kernel
theorem d_M_hit_164 : decode c_M_hit 164 = .ok (.lload 6, 2) := by decide +kernel
theorem d_M_hit_166 : decode c_M_hit 166 = .ok (.aload_n 0, 1) := by decide +kernel
theorem d_M_hit_167 : decode c_M_hit 167 = .ok (.getfield 83, 3) := by decide +kernel
theorem d_M_hit_170 : decode c_M_hit 170 = .ok (.aload_n 0, 1) := by decide +kernel
theorem d_M_hit_171 : decode c_M_hit 171 = .ok (.getfield 26, 3) := by decide +kernel
theorem d_M_hit_174 : decode c_M_hit 174 = .ok (.iload 8, 2) := by decide +kernel
theorem d_M_hit_176 : decode c_M_hit 176 = .ok (.iaload, 1) := by decide +kernel
theorem d_M_hit_177 : decode c_M_hit 177 = .ok (.i2l, 1) := by decide +kernel
theorem d_M_hit_178 : decode c_M_hit 178 = .ok (.lmul, 1) := by decide +kernel
theorem d_M_hit_179 : decode c_M_hit 179 = .ok (.ladd, 1) := by decide +kernel
theorem d_M_hit_180 : decode c_M_hit 180 = .ok (.lstore 6, 2) := by decide +kernel
theorem d_M_hit_182 : decode c_M_hit 182 = .ok (.iinc 8 1, 3) := by decide +kernel
theorem d_M_hit_185 : decode c_M_hit 185 = .ok (.goto (-66), 3) := by decide +kernel
theorem d_M_hit_188 : decode c_M_hit 188 = .ok (.aload_n 0, 1) := by decide +kernel
theorem d_M_hit_189 : decode c_M_hit 189 = .ok (.iload 4, 2) := by decide +kernel
theorem d_M_hit_191 : decode c_M_hit 191 = .ok (.iconst 1, 1) := by decide +kernel
theorem d_M_hit_192 : decode c_M_hit 192 = .ok (.iload_n 2, 1) := by decide +kernel
theorem d_M_hit_193 : decode c_M_hit 193 = .ok (.ishl, 1) := by decide +kernel
theorem d_M_hit_194 : decode c_M_hit 194 = .ok (.iload_n 1, 1) := by decide +kernel
theorem d_M_hit_195 : decode c_M_hit 195 = .ok (.iconst 1, 1) := by decide +kernel
theorem d_M_hit_196 : decode c_M_hit 196 = .ok (.iload_n 2, 1) := by decide +kernel
theorem d_M_hit_197 : decode c_M_hit 197 = .ok (.ishl, 1) := by decide +kernel
theorem d_M_hit_198 : decode c_M_hit 198 = .ok (.invokevirtual 92, 3) := by decide +kernel
theorem d_M_hit_201 : decode c_M_hit 201 = .ok (.lload 6, 2) := by decide +kernel
theorem d_M_hit_203 : decode c_M_hit 203 = .ok (.aload_n 0, 1) := by decide +kernel
theorem d_M_hit_204 : decode c_M_hit 204 = .ok (.getfield 79, 3) := by decide +kernel
theorem d_M_hit_207 : decode c_M_hit 207 = .ok (.iload_n 3, 1) := by decide +kernel
theorem d_M_hit_208 : decode c_M_hit 208 = .ok (.invokestatic 109, 3) := by decide +kernel
theorem d_M_hit_211 : decode c_M_hit 211 = .ok (.lreturn, 1) := by decide +kernel
theorem d_M_back_0 : decode c_M_back 0 = .ok (.aload_n 0, 1) := by decide +kernel
theorem d_M_back_1 : decode c_M_back 1 = .ok (.iload_n 1, 1) := by decide +kernel
theorem d_M_back_2 : decode c_M_back 2 = .ok (.invokevirtual 51, 3) := by decide +kernel
theorem d_M_back_5 : decode c_M_back 5 = .ok (.ifCond .ne 7, 3) := by decide +kernel
theorem d_M_back_8 : decode c_M_back 8 = .ok (.ldc2_w 96, 3) := by decide +kernel
theorem d_M_back_11 : decode c_M_back 11 = .ok (.lreturn, 1) := by decide +kernel
theorem d_M_back_12 : decode c_M_back 12 = .ok (.iload_n 2, 1) := by decide +kernel
theorem d_M_back_13 : decode c_M_back 13 = .ok (.invokestatic 98, 3) := by decide +kernel
theorem d_M_back_16 : decode c_M_back 16 = .ok (.ifCond .ne 7, 3) := by decide +kernel
theorem d_M_back_19 : decode c_M_back 19 = .ok (.ldc2_w 101, 3) := by decide +kernel
theorem d_M_back_22 : decode c_M_back 22 = .ok (.lreturn, 1) := by decide +kernel
theorem d_M_back_23 : decode c_M_back 23 = .ok (.aload_n 0, 1) := by decide +kernel
theorem d_M_back_24 : decode c_M_back 24 = .ok (.invokevirtual 76, 3) := by decide +kernel
theorem d_M_back_27 : decode c_M_back 27 = .ok (.aload_n 0, 1) := by decide +kernel
theorem d_M_back_28 : decode c_M_back 28 = .ok (.getfield 29, 3) := by decide +kernel
theorem d_M_back_31 : decode c_M_back 31 = .ok (.iload_n 1, 1) := by decide +kernel
theorem d_M_back_32 : decode c_M_back 32 = .ok (.iaload, 1) := by decide +kernel
theorem d_M_back_33 : decode c_M_back 33 = .ok (.ifCond .ge 7, 3) := by decide +kernel
theorem d_M_back_36 : decode c_M_back 36 = .ok (.ldc2_w 103, 3) := by decide +kernel
theorem d_M_back_39 : decode c_M_back 39 = .ok (.lreturn, 1) := by decide +kernel
theorem d_M_back_40 : decode c_M_back 40 = .ok (.aload_n 0, 1) := by decide +kernel
theorem d_M_back_41 : decode c_M_back 41 = .ok (.aload_n 0, 1) := by decide +kernel
theorem d_M_back_42 : decode c_M_back 42 = .ok (.getfield 32, 3) := by decide +kernel
theorem d_M_back_45 : decode c_M_back 45 = .ok (.aload_n 0, 1) := by decide +kernel
theorem d_M_back_46 : decode c_M_back 46 = .ok (.getfield 29, 3) := by decide +kernel
theorem d_M_back_49 : decode c_M_back 49 = .ok (.iload_n 1, 1) := by decide +kernel
theorem d_M_back_50 : decode c_M_back 50 = .ok (.iaload, 1) := by decide +kernel
theorem d_M_back_51 : decode c_M_back 51 = .ok (.iaload, 1) := by decide +kernel
theorem d_M_back_52 : decode c_M_back 52 = .ok (.invokevirtual 105, 3) := by decide +kernel
theorem d_M_back_55 : decode c_M_back 55 = .ok (.aload_n 0, 1) := by decide +kernel
theorem d_M_back_56 : decode c_M_back 56 = .ok (.getfield 89, 3) := by decide +kernel
theorem d_M_back_59 : decode c_M_back 59 = .ok (.aload_n 0, 1) := by decide +kernel
theorem d_M_back_60 : decode c_M_back 60 = .ok (.getfield 38, 3) := by decide +kernel
theorem d_M_back_63 : decode c_M_back 63 = .ok (.iload_n 1, 1) := by decide +kernel
theorem d_M_back_64 : decode c_M_back 64 = .ok (.laload, 1) := by decide +kernel
theorem d_M_back_65 : decode c_M_back 65 = .ok (.iload_n 2, 1) := by decide +kernel
theorem d_M_back_66 : decode c_M_back 66 = .ok (.invokestatic 109, 3) := by decide +kernel
theorem d_M_back_69 : decode c_M_back 69 = .ok (.lreturn, 1) := by decide +kernel
theorem d_M_end_0 : decode c_M_end 0 = .ok (.aload_n 0, 1) := by decide +kernel
theorem d_M_end_1 : decode c_M_end 1 = .ok (.invokevirtual 76, 3) := by decide +kernel
theorem d_M_end_4 : decode c_M_end 4 = .ok (.aload_n 0, 1) := by decide +kernel
theorem d_M_end_5 : decode c_M_end 5 = .ok (.iload_n 1, 1) := by decide +kernel
theorem d_M_end_6 : decode c_M_end 6 = .ok (.invokevirtual 51, 3) := by decide +kernel
theorem d_M_end_9 : decode c_M_end 9 = .ok (.ifCond .eq 15, 3) := by decide +kernel
theorem d_M_end_12 : decode c_M_end 12 = .ok (.iload_n 2, 1) := by decide +kernel
theorem d_M_end_13 : decode c_M_end 13 = .ok (.ifCond .lt 11, 3) := by decide +kernel
theorem d_M_end_16 : decode c_M_end 16 = .ok (.iload_n 2, 1) := by decide +kernel
theorem d_M_end_17 : decode c_M_end 17 = .ok (.aload_n 0, 1) := by decide +kernel
theorem d_M_end_18 : decode c_M_end 18 = .ok (.getfield 70, 3) := by decide +kernel
theorem d_M_end_21 : decode c_M_end 21 = .ok (.if_icmp .lt 7, 3) := by decide +kernel
theorem d_M_end_24 : decode c_M_end 24 = .ok (.ldc2_w 96, 3) := by decide +kernel
theorem d_M_end_27 : decode c_M_end 27 = .ok (.lreturn, 1) := by decide +kernel
theorem d_M_end_28 : decode c_M_end 28 = .ok (.iload_n 3, 1) := by decide +kernel
theorem d_M_end_29 : decode c_M_end 29 = .ok (.invokestatic 98, 3) := by decide +kernel
theorem d_M_end_32 : decode c_M_end 32 = .ok (.ifCond .ne 7, 3) := by decide +kernel
theorem d_M_end_35 : decode c_M_end 35 = .ok (.ldc2_w 101, 3) := by decide +kernel
theorem d_M_end_38 : decode c_M_end 38 = .ok (.lreturn, 1) := by decide +kernel
theorem d_M_end_39 : decode c_M_end 39 = .ok (.iconst 0, 1) := by decide +kernel
theorem d_M_end_40 : decode c_M_end 40 = .ok (.istore 4, 2) := by decide +kernel
theorem d_M_end_42 : decode c_M_end 42 = .ok (.iconst 0, 1) := by decide +kernel
theorem d_M_end_43 : decode c_M_end 43 = .ok (.istore 5, 2) := by decide +kernel
theorem d_M_end_45 : decode c_M_end 45 = .ok (.iload 5, 2) := by decide +kernel
theorem d_M_end_47 : decode c_M_end 47 = .ok (.aload_n 0, 1) := by decide +kernel
theorem d_M_end_48 : decode c_M_end 48 = .ok (.getfield 70, 3) := by decide +kernel
theorem d_M_end_51 : decode c_M_end 51 = .ok (.if_icmp .ge 21, 3) := by decide +kernel
theorem d_M_end_54 : decode c_M_end 54 = .ok (.iload 4, 2) := by decide +kernel
theorem d_M_end_56 : decode c_M_end 56 = .ok (.aload_n 0, 1) := by decide +kernel
theorem d_M_end_57 : decode c_M_end 57 = .ok (.getfield 32, 3) := by decide +kernel
theorem d_M_end_60 : decode c_M_end 60 = .ok (.iload 5, 2) := by decide +kernel
theorem d_M_end_62 : decode c_M_end 62 = .ok (.iaload, 1) := by decide +kernel
theorem d_M_end_63 : decode c_M_end 63 = .ok (.ior, 1) := by decide +kernel
theorem d_M_end_64 : decode c_M_end 64 = .ok (.istore 4, 2) := by decide +kernel
theorem d_M_end_66 : decode c_M_end 66 = .ok (.iinc 5 1, 3) := by decide +kernel
theorem d_M_end_69 : decode c_M_end 69 = .ok (.goto (-24), 3) := by decide +kernel
theorem d_M_end_72 : decode c_M_end 72 = .ok (.aload_n 0, 1) := by decide +kernel
theorem d_M_end_73 : decode c_M_end 73 = .ok (.aload_n 0, 1) := by decide +kernel
theorem d_M_end_74 : decode c_M_end 74 = .ok (.invokevirtual 113, 3) := by decide +kernel
theorem d_M_end_77 : decode c_M_end 77 = .ok (.iload 4, 2) := by decide +kernel
theorem d_M_end_79 : decode c_M_end 79 = .ok (.iload_n 1, 1) := by decide +kernel
theorem d_M_end_80 : decode c_M_end 80 = .ok (.aload_n 0, 1) := by decide +kernel
theorem d_M_end_81 : decode c_M_end 81 = .ok (.getfield 32, 3) := by decide +kernel
theorem d_M_end_84 : decode c_M_end 84 = .ok (.iload_n 2, 1) := by decide +kernel
theorem d_M_end_85 : decode c_M_end 85 = .ok (.iaload, 1) := by decide +kernel
theorem d_M_end_86 : decode c_M_end 86 = .ok (.invokevirtual 92, 3) := by decide +kernel
theorem d_M_end_89 : decode c_M_end 89 = .ok (.aload_n 0, 1) := by decide +kernel
theorem d_M_end_90 : decode c_M_end 90 = .ok (.getfield 83, 3) := by decide +kernel
theorem d_M_end_93 : decode c_M_end 93 = .ok (.aload_n 0, 1) := by decide +kernel
theorem d_M_end_94 : decode c_M_end 94 = .ok (.getfield 79, 3) := by decide +kernel
theorem d_M_end_97 : decode c_M_end 97 = .ok (.iload_n 3, 1) := by decide +kernel
theorem d_M_end_98 : decode c_M_end 98 = .ok (.invokestatic 109, 3) := by decide +kernel
theorem d_M_end_101 : decode c_M_end 101 = .ok (.lreturn, 1) := by decide +kernel
theorem d_M_after_0 : decode c_M_after 0 = .ok (.aload_n 0, 1) := by decide +kernel
theorem d_M_after_1 : decode c_M_after 1 = .ok (.iload_n 1, 1) := by decide +kernel
theorem d_M_after_2 : decode c_M_after 2 = .ok (.invokevirtual 51, 3) := by decide +kernel
theorem d_M_after_5 : decode c_M_after 5 = .ok (.ifCond .eq 11, 3) := by decide +kernel
theorem d_M_after_8 : decode c_M_after 8 = .ok (.aload_n 0, 1) := by decide +kernel
theorem d_M_after_9 : decode c_M_after 9 = .ok (.iload_n 2, 1) := by decide +kernel
theorem d_M_after_10 : decode c_M_after 10 = .ok (.invokevirtual 51, 3) := by decide +kernel
theorem d_M_after_13 : decode c_M_after 13 = .ok (.ifCond .ne 7, 3) := by decide +kernel
theorem d_M_after_16 : decode c_M_after 16 = .ok (.ldc2_w 96, 3) := by decide +kernel
theorem d_M_after_19 : decode c_M_after 19 = .ok (.lreturn, 1) := by decide +kernel
theorem d_M_after_20 : decode c_M_after 20 = .ok (.iload_n 3, 1) := by decide +kernel
theorem d_M_after_21 : decode c_M_after 21 = .ok (.ifCond .lt 16, 3) := by decide +kernel
theorem d_M_after_24 : decode c_M_after 24 = .ok (.iload_n 3, 1) := by decide +kernel
theorem d_M_after_25 : decode c_M_after 25 = .ok (.iconst 3, 1) := by decide +kernel
theorem d_M_after_26 : decode c_M_after 26 = .ok (.if_icmp .gt 11, 3) := by decide +kernel
theorem d_M_after_29 : decode c_M_after 29 = .ok (.iload 4, 2) := by decide +kernel
theorem d_M_after_31 : decode c_M_after 31 = .ok (.invokestatic 98, 3) := by decide +kernel
theorem d_M_after_34 : decode c_M_after 34 = .ok (.ifCond .ne 7, 3) := by decide +kernel
theorem d_M_after_37 : decode c_M_after 37 = .ok (.ldc2_w 101, 3) := by decide +kernel
theorem d_M_after_40 : decode c_M_after 40 = .ok (.lreturn, 1) := by decide +kernel
theorem d_M_after_41 : decode c_M_after 41 = .ok (.aload_n 0, 1) := by decide +kernel
theorem d_M_after_42 : decode c_M_after 42 = .ok (.invokevirtual 59, 3) := by decide +kernel
theorem d_M_after_45 : decode c_M_after 45 = .ok (.lconst 1, 1) := by decide +kernel
theorem d_M_after_46 : decode c_M_after 46 = .ok (.lstore 5, 2) := by decide +kernel
theorem d_M_after_48 : decode c_M_after 48 = .ok (.iconst 0, 1) := by decide +kernel
theorem d_M_after_49 : decode c_M_after 49 = .ok (.istore 7, 2) := by decide +kernel
theorem d_M_after_51 : decode c_M_after 51 = .ok (.iload 7, 2) := by decide +kernel
theorem d_M_after_53 : decode c_M_after 53 = .ok (.aload_n 0, 1) := by decide +kernel
theorem d_M_after_54 : decode c_M_after 54 = .ok (.getfield 48, 3) := by decide +kernel
theorem d_M_after_57 : decode c_M_after 57 = .ok (.if_icmp .ge 54, 3) := by decide +kernel
theorem d_M_after_60 : decode c_M_after 60 = .ok (.lload 5, 2) := by decide +kernel
theorem d_M_after_62 : decode c_M_after 62 = .ok (.lload 5, 2) := by decide +kernel
theorem d_M_after_64 : decode c_M_after 64 = .ok (.aload_n 0, 1) := by decide +kernel
theorem d_M_after_65 : decode c_M_after 65 = .ok (.getfield 26, 3) := by decide +kernel
theorem d_M_after_68 : decode c_M_after 68 = .ok (.iload 7, 2) := by decide +kernel
theorem d_M_after_70 : decode c_M_after 70 = .ok (.iaload, 1) := by decide +kernel
theorem d_M_after_71 : decode c_M_after 71 = .ok (.i2l, 1) := by decide +kernel
theorem d_M_after_72 : decode c_M_after 72 = .ok (.invokestatic 55, 3) := by decide +kernel
theorem d_M_after_75 : decode c_M_after 75 = .ok (.ldiv, 1) := by decide +kernel
theorem d_M_after_76 : decode c_M_after 76 = .ok (.aload_n 0, 1) := by decide +kernel
theorem d_M_after_77 : decode c_M_after 77 = .ok (.getfield 26, 3) := by decide +kernel
theorem d_M_after_80 : decode c_M_after 80 = .ok (.iload 7, 2) := by decide +kernel
theorem d_M_after_82 : decode c_M_after 82 = .ok (.iaload, 1) := by decide +kernel
theorem d_M_after_83 : decode c_M_after 83 = .ok (.i2l, 1) := by decide +kernel
theorem d_M_after_84 : decode c_M_after 84 = .ok (.lmul, 1) := by decide +kernel
theorem d_M_after_85 : decode c_M_after 85 = .ok (.lstore 5, 2) := by decide +kernel
theorem d_M_after_87 : decode c_M_after 87 = .ok (.aload_n 0, 1) := by decide +kernel
theorem d_M_after_88 : decode c_M_after 88 = .ok (.getfield 42, 3) := by decide +kernel
theorem d_M_after_91 : decode c_M_after 91 = .ok (.iload 7, 2) := by decide +kernel
theorem d_M_after_93 : decode c_M_after 93 = .ok (.iload 7, 2) := by decide +kernel
theorem d_M_after_95 : decode c_M_after 95 = .ok (.iload_n 1, 1) := by decide +kernel
theorem d_M_after_96 : decode c_M_after 96 = .ok (.if_icmp .ne 7, 3) := by decide +kernel
theorem d_M_after_99 : decode c_M_after 99 = .ok (.lconst 1, 1) := by decide +kernel
theorem d_M_after_100 : decode c_M_after 100 = .ok (.goto 4, 3) := by decide +kernel
theorem d_M_after_103 : decode c_M_after 103 = .ok (.lconst 0, 1) := by decide +kernel
theorem d_M_after_104 : decode c_M_after 104 = .ok (.lastore, 1) := by decide +kernel
theorem d_M_after_105 : decode c_M_after 105 = .ok (.iinc 7 1, 3) := by decide +kernel
theorem d_M_after_108 : decode c_M_after 108 = .ok (.goto (-57), 3) := by decide +kernel
theorem d_M_after_111 : decode c_M_after 111 = .ok (.lconst 1, 1) := by decide +kernel
theorem d_M_after_112 : decode c_M_after 112 = .ok (.lstore 7, 2) := by decide +kernel
theorem d_M_after_114 : decode c_M_after 114 = .ok (.iconst 0, 1) := by decide +kernel
theorem d_M_after_115 : decode c_M_after 115 = .ok (.istore 9, 2) := by decide +kernel
theorem d_M_after_117 : decode c_M_after 117 = .ok (.iload 9, 2) := by decide +kernel
theorem d_M_after_119 : decode c_M_after 119 = .ok (.iload_n 3, 1) := by decide +kernel
theorem d_M_after_120 : decode c_M_after 120 = .ok (.if_icmp .ge 135, 3) := by decide +kernel
theorem d_M_after_123 : decode c_M_after 123 = .ok (.lload 7, 2) := by decide +kernel
theorem d_M_after_125 : decode c_M_after 125 = .ok (.lload 5, 2) := by decide +kernel
theorem d_M_after_127 : decode c_M_after 127 = .ok (.lmul, 1) := by decide +kernel
theorem d_M_after_128 : decode c_M_after 128 = .ok (.lstore 7, 2) := by decide +kernel
theorem d_M_after_130 : decode c_M_after 130 = .ok (.iconst 0, 1) := by decide +kernel
theorem d_M_after_131 : decode c_M_after 131 = .ok (.istore 10, 2) := by decide +kernel
theorem d_M_after_133 : decode c_M_after 133 = .ok (.iload 10, 2) := by decide +kernel
theorem d_M_after_135 : decode c_M_after 135 = .ok (.aload_n 0, 1) := by decide +kernel
theorem d_M_after_136 : decode c_M_after 136 = .ok (.getfield 48, 3) := by decide +kernel
theorem d_M_after_139 : decode c_M_after 139 = .ok (.if_icmp .ge 78, 3) := by decide +kernel
theorem d_M_after_142 : decode c_M_after 142 = .ok (.aload_n 0, 1) := by decide +kernel
theorem d_M_after_143 : decode c_M_after 143 = .ok (.getfield 45, 3) := by decide +kernel
theorem d_M_after_146 : decode c_M_after 146 = .ok (.iload 10, 2) := by decide +kernel
theorem d_M_after_148 : decode c_M_after 148 = .ok (.lconst 0, 1) := by decide +kernel
theorem d_M_after_149 : decode c_M_after 149 = .ok (.lastore, 1) := by decide +kernel
theorem d_M_after_150 : decode c_M_after 150 = .ok (.iconst 0, 1) := by decide +kernel
theorem d_M_after_151 : decode c_M_after 151 = .ok (.istore 11, 2) := by decide +kernel
theorem d_M_after_153 : decode c_M_after 153 = .ok (.iload 11, 2) := by decide +kernel
theorem d_M_after_155 : decode c_M_after 155 = .ok (.aload_n 0, 1) := by decide +kernel
theorem d_M_after_156 : decode c_M_after 156 = .ok (.getfield 48, 3) := by decide +kernel
theorem d_M_after_159 : decode c_M_after 159 = .ok (.if_icmp .ge 52, 3) := by decide +kernel
theorem d_M_after_162 : decode c_M_after 162 = .ok (.aload_n 0, 1) := by decide +kernel
theorem d_M_after_163 : decode c_M_after 163 = .ok (.getfield 45, 3) := by decide +kernel
theorem d_M_after_166 : decode c_M_after 166 = .ok (.iload 10, 2) := by decide +kernel
theorem d_M_after_168 : decode c_M_after 168 = .ok (.dup2, 1) := by decide +kernel
theorem d_M_after_169 : decode c_M_after 169 = .ok (.laload, 1) := by decide +kernel
theorem d_M_after_170 : decode c_M_after 170 = .ok (.aload_n 0, 1) := by decide +kernel
theorem d_M_after_171 : decode c_M_after 171 = .ok (.getfield 42, 3) := by decide +kernel
theorem d_M_after_174 : decode c_M_after 174 = .ok (.iload 11, 2) := by decide +kernel
theorem d_M_after_176 : decode c_M_after 176 = .ok (.laload, 1) := by decide +kernel
theorem d_M_after_177 : decode c_M_after 177 = .ok (.lload 5, 2) := by decide +kernel
theorem d_M_after_179 : decode c_M_after 179 = .ok (.aload_n 0, 1) := by decide +kernel
theorem d_M_after_180 : decode c_M_after 180 = .ok (.getfield 26, 3) := by decide +kernel
theorem d_M_after_183 : decode c_M_after 183 = .ok (.iload 11, 2) := by decide +kernel
theorem d_M_after_185 : decode c_M_after 185 = .ok (.iaload, 1) := by decide +kernel
theorem d_M_after_186 : decode c_M_after 186 = .ok (.i2l, 1) := by decide +kernel
theorem d_M_after_187 : decode c_M_after 187 = .ok (.ldiv, 1) := by decide +kernel
theorem d_M_after_188 : decode c_M_after 188 = .ok (.lmul, 1) := by decide +kernel
theorem d_M_after_189 : decode c_M_after 189 = .ok (.aload_n 0, 1) := by decide +kernel
theorem d_M_after_190 : decode c_M_after 190 = .ok (.getfield 23, 3) := by decide +kernel
theorem d_M_after_193 : decode c_M_after 193 = .ok (.iconst 5, 1) := by decide +kernel
theorem d_M_after_194 : decode c_M_after 194 = .ok (.iload 11, 2) := by decide +kernel
theorem d_M_after_196 : decode c_M_after 196 = .ok (.imul, 1) := by decide +kernel
theorem d_M_after_197 : decode c_M_after 197 = .ok (.iload 10, 2) := by decide +kernel
theorem d_M_after_199 : decode c_M_after 199 = .ok (.iadd, 1) := by decide +kernel
theorem d_M_after_200 : decode c_M_after 200 = .ok (.iaload, 1) := by decide +kernel
theorem d_M_after_201 : decode c_M_after 201 = .ok (.i2l, 1) := by decide +kernel
theorem d_M_after_202 : decode c_M_after 202 = .ok (.lmul, 1) := by decide +kernel
theorem d_M_after_203 : decode c_M_after 203 = .ok (.ladd, 1) := by decide +kernel
theorem d_M_after_204 : decode c_M_after 204 = .ok (.lastore, 1) := by decide +kernel
theorem d_M_after_205 : decode c_M_after 205 = .ok (.iinc 11 1, 3) := by decide +kernel
theorem d_M_after_208 : decode c_M_after 208 = .ok (.goto (-55), 3) := by decide +kernel
theorem d_M_after_211 : decode c_M_after 211 = .ok (.iinc 10 1, 3) := by decide +kernel
theorem d_M_after_214 : decode c_M_after 214 = .ok (.goto (-81), 3) := by decide +kernel
theorem d_M_after_217 : decode c_M_after 217 = .ok (.iconst 0, 1) := by decide +kernel
theorem d_M_after_218 : decode c_M_after 218 = .ok (.istore 10, 2) := by decide +kernel
theorem d_M_after_220 : decode c_M_after 220 = .ok (.iload 10, 2) := by decide +kernel
theorem d_M_after_222 : decode c_M_after 222 = .ok (.aload_n 0, 1) := by decide +kernel
theorem d_M_after_223 : decode c_M_after 223 = .ok (.getfield 48, 3) := by decide +kernel
theorem d_M_after_226 : decode c_M_after 226 = .ok (.if_icmp .ge 23, 3) := by decide +kernel
theorem d_M_after_229 : decode c_M_after 229 = .ok (.aload_n 0, 1) := by decide +kernel
theorem d_M_after_230 : decode c_M_after 230 = .ok (.getfield 42, 3) := by decide +kernel
theorem d_M_after_233 : decode c_M_after 233 = .ok (.iload 10, 2) := by decide +kernel
theorem d_M_after_235 : decode c_M_after 235 = .ok (.aload_n 0, 1) := by decide +kernel
theorem d_M_after_236 : decode c_M_after 236 = .ok (.getfield 45, 3) := by decide +kernel
theorem d_M_after_239 : decode c_M_after 239 = .ok (.iload 10, 2) := by decide +kernel
theorem d_M_after_241 : decode c_M_after 241 = .ok (.laload, 1) := by decide +kernel
theorem d_M_after_242 : decode c_M_after 242 = .ok (.lastore, 1) := by decide +kernel
theorem d_M_after_243 : decode c_M_after 243 = .ok (.iinc 10 1, 3) := by decide +kernel
theorem d_M_after_246 : decode c_M_after 246 = .ok (.goto (-26), 3) := by decide +kernel
theorem d_M_after_249 : decode c_M_after 249 = .ok (.iinc 9 1, 3) := by decide +kernel
theorem d_M_after_252 : decode c_M_after 252 = .ok (.goto (-135), 3) := by decide +kernel
theorem d_M_after_255 : decode c_M_after 255 = .ok (.aload_n 0, 1) := by decide +kernel
theorem d_M_after_256 : decode c_M_after 256 = .ok (.getfield 42, 3) := by decide +kernel
theorem d_M_after_259 : decode c_M_after 259 = .ok (.iload_n 2, 1) := by decide +kernel
theorem d_M_after_260 : decode c_M_after 260 = .ok (.laload, 1) := by decide +kernel
theorem d_M_after_261 : decode c_M_after 261 = .ok (.lload 7, 2) := by decide +kernel
theorem d_M_after_263 : decode c_M_after 263 = .ok (.iload 4, 2) := by decide +kernel
theorem d_M_after_265 : decode c_M_after 265 = .ok (.invokestatic 109, 3) := by decide +kernel
theorem d_M_after_268 : decode c_M_after 268 = .ok (.lreturn, 1) := by decide +kernel
theorem d_M_walks_0 : decode c_M_walks 0 = .ok (.aload_n 0, 1) := by decide +kernel
theorem d_M_walks_1 : decode c_M_walks 1 = .ok (.iload_n 1, 1) := by decide +kernel
theorem d_M_walks_2 : decode c_M_walks 2 = .ok (.invokevirtual 51, 3) := by decide +kernel
theorem d_M_walks_5 : decode c_M_walks 5 = .ok (.ifCond .eq 11, 3) := by decide +kernel
theorem d_M_walks_8 : decode c_M_walks 8 = .ok (.aload_n 0, 1) := by decide +kernel
theorem d_M_walks_9 : decode c_M_walks 9 = .ok (.iload_n 2, 1) := by decide +kernel
theorem d_M_walks_10 : decode c_M_walks 10 = .ok (.invokevirtual 51, 3) := by decide +kernel
theorem d_M_walks_13 : decode c_M_walks 13 = .ok (.ifCond .ne 7, 3) := by decide +kernel
theorem d_M_walks_16 : decode c_M_walks 16 = .ok (.ldc2_w 96, 3) := by decide +kernel
theorem d_M_walks_19 : decode c_M_walks 19 = .ok (.lreturn, 1) := by decide +kernel
theorem d_M_walks_20 : decode c_M_walks 20 = .ok (.iload_n 3, 1) := by decide +kernel
theorem d_M_walks_21 : decode c_M_walks 21 = .ok (.ifCond .lt 9, 3) := by decide +kernel
theorem d_M_walks_24 : decode c_M_walks 24 = .ok (.iload_n 3, 1) := by decide +kernel
theorem d_M_walks_25 : decode c_M_walks 25 = .ok (.bipush 12, 2) := by decide +kernel
theorem d_M_walks_27 : decode c_M_walks 27 = .ok (.if_icmp .le 7, 3) := by decide +kernel
theorem d_M_walks_30 : decode c_M_walks 30 = .ok (.ldc2_w 101, 3) := by decide +kernel
theorem d_M_walks_33 : decode c_M_walks 33 = .ok (.lreturn, 1) := by decide +kernel
theorem d_M_walks_34 : decode c_M_walks 34 = .ok (.iconst 0, 1) := by decide +kernel
theorem d_M_walks_35 : decode c_M_walks 35 = .ok (.istore 4, 2) := by decide +kernel
theorem d_M_walks_37 : decode c_M_walks 37 = .ok (.iload 4, 2) := by decide +kernel
theorem d_M_walks_39 : decode c_M_walks 39 = .ok (.aload_n 0, 1) := by decide +kernel
theorem d_M_walks_40 : decode c_M_walks 40 = .ok (.getfield 48, 3) := by decide +kernel
theorem d_M_walks_43 : decode c_M_walks 43 = .ok (.if_icmp .ge 27, 3) := by decide +kernel
theorem d_M_walks_46 : decode c_M_walks 46 = .ok (.aload_n 0, 1) := by decide +kernel
theorem d_M_walks_47 : decode c_M_walks 47 = .ok (.getfield 42, 3) := by decide +kernel
theorem d_M_walks_50 : decode c_M_walks 50 = .ok (.iload 4, 2) := by decide +kernel
theorem d_M_walks_52 : decode c_M_walks 52 = .ok (.iload 4, 2) := by decide +kernel
theorem d_M_walks_54 : decode c_M_walks 54 = .ok (.iload_n 1, 1) := by decide +kernel
theorem d_M_walks_55 : decode c_M_walks 55 = .ok (.if_icmp .ne 7, 3) := by decide +kernel
theorem d_M_walks_58 : decode c_M_walks 58 = .ok (.lconst 1, 1) := by decide +kernel
theorem d_M_walks_59 : decode c_M_walks 59 = .ok (.goto 4, 3) := by decide +kernel
theorem d_M_walks_62 : decode c_M_walks 62 = .ok (.lconst 0, 1) := by decide +kernel
theorem d_M_walks_63 : decode c_M_walks 63 = .ok (.lastore, 1) := by decide +kernel
theorem d_M_walks_64 : decode c_M_walks 64 = .ok (.iinc 4 1, 3) := by decide +kernel
theorem d_M_walks_67 : decode c_M_walks 67 = .ok (.goto (-30), 3) := by decide +kernel
theorem d_M_walks_70 : decode c_M_walks 70 = .ok (.iconst 0, 1) := by decide +kernel
theorem d_M_walks_71 : decode c_M_walks 71 = .ok (.istore 4, 2) := by decide +kernel
theorem d_M_walks_73 : decode c_M_walks 73 = .ok (.iload 4, 2) := by decide +kernel
theorem d_M_walks_75 : decode c_M_walks 75 = .ok (.iload_n 3, 1) := by decide +kernel
theorem d_M_walks_76 : decode c_M_walks 76 = .ok (.if_icmp .ge 116, 3) := by decide +kernel
theorem d_M_walks_79 : decode c_M_walks 79 = .ok (.iconst 0, 1) := by decide +kernel
theorem d_M_walks_80 : decode c_M_walks 80 = .ok (.istore 5, 2) := by decide +kernel
theorem d_M_walks_82 : decode c_M_walks 82 = .ok (.iload 5, 2) := by decide +kernel
theorem d_M_walks_84 : decode c_M_walks 84 = .ok (.aload_n 0, 1) := by decide +kernel
theorem d_M_walks_85 : decode c_M_walks 85 = .ok (.getfield 48, 3) := by decide +kernel
theorem d_M_walks_88 : decode c_M_walks 88 = .ok (.if_icmp .ge 66, 3) := by decide +kernel
theorem d_M_walks_91 : decode c_M_walks 91 = .ok (.aload_n 0, 1) := by decide +kernel
theorem d_M_walks_92 : decode c_M_walks 92 = .ok (.getfield 45, 3) := by decide +kernel
theorem d_M_walks_95 : decode c_M_walks 95 = .ok (.iload 5, 2) := by decide +kernel
theorem d_M_walks_97 : decode c_M_walks 97 = .ok (.lconst 0, 1) := by decide +kernel
theorem d_M_walks_98 : decode c_M_walks 98 = .ok (.lastore, 1) := by decide +kernel
theorem d_M_walks_99 : decode c_M_walks 99 = .ok (.iconst 0, 1) := by decide +kernel
theorem d_M_walks_100 : decode c_M_walks 100 = .ok (.istore 6, 2) := by decide +kernel
theorem d_M_walks_102 : decode c_M_walks 102 = .ok (.iload 6, 2) := by decide +kernel
theorem d_M_walks_104 : decode c_M_walks 104 = .ok (.aload_n 0, 1) := by decide +kernel
theorem d_M_walks_105 : decode c_M_walks 105 = .ok (.getfield 48, 3) := by decide +kernel
theorem d_M_walks_108 : decode c_M_walks 108 = .ok (.if_icmp .ge 40, 3) := by decide +kernel
theorem d_M_walks_111 : decode c_M_walks 111 = .ok (.aload_n 0, 1) := by decide +kernel
theorem d_M_walks_112 : decode c_M_walks 112 = .ok (.getfield 45, 3) := by decide +kernel
theorem d_M_walks_115 : decode c_M_walks 115 = .ok (.iload 5, 2) := by decide +kernel
theorem d_M_walks_117 : decode c_M_walks 117 = .ok (.dup2, 1) := by decide +kernel
theorem d_M_walks_118 : decode c_M_walks 118 = .ok (.laload, 1) := by decide +kernel
theorem d_M_walks_119 : decode c_M_walks 119 = .ok (.aload_n 0, 1) := by decide +kernel
theorem d_M_walks_120 : decode c_M_walks 120 = .ok (.getfield 42, 3) := by decide +kernel
theorem d_M_walks_123 : decode c_M_walks 123 = .ok (.iload 6, 2) := by decide +kernel
theorem d_M_walks_125 : decode c_M_walks 125 = .ok (.laload, 1) := by decide +kernel
theorem d_M_walks_126 : decode c_M_walks 126 = .ok (.aload_n 0, 1) := by decide +kernel
theorem d_M_walks_127 : decode c_M_walks 127 = .ok (.getfield 7, 3) := by decide +kernel
theorem d_M_walks_130 : decode c_M_walks 130 = .ok (.iconst 5, 1) := by decide +kernel
theorem d_M_walks_131 : decode c_M_walks 131 = .ok (.iload 6, 2) := by decide +kernel
theorem d_M_walks_133 : decode c_M_walks 133 = .ok (.imul, 1) := by decide +kernel
theorem d_M_walks_134 : decode c_M_walks 134 = .ok (.iload 5, 2) := by decide +kernel
theorem d_M_walks_136 : decode c_M_walks 136 = .ok (.iadd, 1) := by decide +kernel
theorem d_M_walks_137 : decode c_M_walks 137 = .ok (.iaload, 1) := by decide +kernel
theorem d_M_walks_138 : decode c_M_walks 138 = .ok (.i2l, 1) := by decide +kernel
theorem d_M_walks_139 : decode c_M_walks 139 = .ok (.lmul, 1) := by decide +kernel
theorem d_M_walks_140 : decode c_M_walks 140 = .ok (.ladd, 1) := by decide +kernel
theorem d_M_walks_141 : decode c_M_walks 141 = .ok (.lastore, 1) := by decide +kernel
theorem d_M_walks_142 : decode c_M_walks 142 = .ok (.iinc 6 1, 3) := by decide +kernel
theorem d_M_walks_145 : decode c_M_walks 145 = .ok (.goto (-43), 3) := by decide +kernel
theorem d_M_walks_148 : decode c_M_walks 148 = .ok (.iinc 5 1, 3) := by decide +kernel
theorem d_M_walks_151 : decode c_M_walks 151 = .ok (.goto (-69), 3) := by decide +kernel
theorem d_M_walks_154 : decode c_M_walks 154 = .ok (.iconst 0, 1) := by decide +kernel
theorem d_M_walks_155 : decode c_M_walks 155 = .ok (.istore 5, 2) := by decide +kernel
theorem d_M_walks_157 : decode c_M_walks 157 = .ok (.iload 5, 2) := by decide +kernel
theorem d_M_walks_159 : decode c_M_walks 159 = .ok (.aload_n 0, 1) := by decide +kernel
theorem d_M_walks_160 : decode c_M_walks 160 = .ok (.getfield 48, 3) := by decide +kernel
theorem d_M_walks_163 : decode c_M_walks 163 = .ok (.if_icmp .ge 23, 3) := by decide +kernel
theorem d_M_walks_166 : decode c_M_walks 166 = .ok (.aload_n 0, 1) := by decide +kernel
theorem d_M_walks_167 : decode c_M_walks 167 = .ok (.getfield 42, 3) := by decide +kernel
theorem d_M_walks_170 : decode c_M_walks 170 = .ok (.iload 5, 2) := by decide +kernel
theorem d_M_walks_172 : decode c_M_walks 172 = .ok (.aload_n 0, 1) := by decide +kernel
theorem d_M_walks_173 : decode c_M_walks 173 = .ok (.getfield 45, 3) := by decide +kernel
theorem d_M_walks_176 : decode c_M_walks 176 = .ok (.iload 5, 2) := by decide +kernel
theorem d_M_walks_178 : decode c_M_walks 178 = .ok (.laload, 1) := by decide +kernel
theorem d_M_walks_179 : decode c_M_walks 179 = .ok (.lastore, 1) := by decide +kernel
theorem d_M_walks_180 : decode c_M_walks 180 = .ok (.iinc 5 1, 3) := by decide +kernel
theorem d_M_walks_183 : decode c_M_walks 183 = .ok (.goto (-26), 3) := by decide +kernel
theorem d_M_walks_186 : decode c_M_walks 186 = .ok (.iinc 4 1, 3) := by decide +kernel
theorem d_M_walks_189 : decode c_M_walks 189 = .ok (.goto (-116), 3) := by decide +kernel
theorem d_M_walks_192 : decode c_M_walks 192 = .ok (.aload_n 0, 1) := by decide +kernel
theorem d_M_walks_193 : decode c_M_walks 193 = .ok (.getfield 42, 3) := by decide +kernel
theorem d_M_walks_196 : decode c_M_walks 196 = .ok (.iload_n 2, 1) := by decide +kernel
theorem d_M_walks_197 : decode c_M_walks 197 = .ok (.laload, 1) := by decide +kernel
theorem d_M_walks_198 : decode c_M_walks 198 = .ok (.lreturn, 1) := by decide +kernel
theorem d_M_drawn_0 : decode c_M_drawn 0 = .ok (.aload_n 0, 1) := by decide +kernel
theorem d_M_drawn_1 : decode c_M_drawn 1 = .ok (.iload_n 1, 1) := by decide +kernel
theorem d_M_drawn_2 : decode c_M_drawn 2 = .ok (.invokevirtual 51, 3) := by decide +kernel
theorem d_M_drawn_5 : decode c_M_drawn 5 = .ok (.ifCond .ne 5, 3) := by decide +kernel
theorem d_M_drawn_8 : decode c_M_drawn 8 = .ok (.iconst (-1), 1) := by decide +kernel
theorem d_M_drawn_9 : decode c_M_drawn 9 = .ok (.ireturn, 1) := by decide +kernel
theorem d_M_drawn_10 : decode c_M_drawn 10 = .ok (.iload_n 3, 1) := by decide +kernel
theorem d_M_drawn_11 : decode c_M_drawn 11 = .ok (.ifCond .lt 10, 3) := by decide +kernel
theorem d_M_drawn_14 : decode c_M_drawn 14 = .ok (.iload_n 3, 1) := by decide +kernel
theorem d_M_drawn_15 : decode c_M_drawn 15 = .ok (.sipush 200, 3) := by decide +kernel
theorem d_M_drawn_18 : decode c_M_drawn 18 = .ok (.if_icmp .le 6, 3) := by decide +kernel
theorem d_M_drawn_21 : decode c_M_drawn 21 = .ok (.bipush (-2), 2) := by decide +kernel
theorem d_M_drawn_23 : decode c_M_drawn 23 = .ok (.ireturn, 1) := by decide +kernel
theorem d_M_drawn_24 : decode c_M_drawn 24 = .ok (.aload_n 0, 1) := by decide +kernel
theorem d_M_drawn_25 : decode c_M_drawn 25 = .ok (.invokevirtual 59, 3) := by decide +kernel
theorem d_M_drawn_28 : decode c_M_drawn 28 = .ok (.iload_n 2, 1) := by decide +kernel
theorem d_M_drawn_29 : decode c_M_drawn 29 = .ok (.istore 4, 2) := by decide +kernel
theorem d_M_drawn_31 : decode c_M_drawn 31 = .ok (.iload_n 1, 1) := by decide +kernel
theorem d_M_drawn_32 : decode c_M_drawn 32 = .ok (.istore 5, 2) := by decide +kernel
theorem d_M_drawn_34 : decode c_M_drawn 34 = .ok (.iconst 0, 1) := by decide +kernel
theorem d_M_drawn_35 : decode c_M_drawn 35 = .ok (.istore 6, 2) := by decide +kernel
theorem d_M_drawn_37 : decode c_M_drawn 37 = .ok (.iload 6, 2) := by decide +kernel
theorem d_M_drawn_39 : decode c_M_drawn 39 = .ok (.iload_n 3, 1) := by decide +kernel
theorem d_M_drawn_40 : decode c_M_drawn 40 = .ok (.if_icmp .ge 80, 3) := by decide +kernel
theorem d_M_drawn_43 : decode c_M_drawn 43 = .ok (.iload 4, 2) := by decide +kernel
theorem d_M_drawn_45 : decode c_M_drawn 45 = .ok (.ldc 117, 2) := by decide +kernel
theorem d_M_drawn_47 : decode c_M_drawn 47 = .ok (.imul, 1) := by decide +kernel
theorem d_M_drawn_48 : decode c_M_drawn 48 = .ok (.ldc 118, 2) := by decide +kernel
theorem d_M_drawn_50 : decode c_M_drawn 50 = .ok (.iadd, 1) := by decide +kernel
theorem d_M_drawn_51 : decode c_M_drawn 51 = .ok (.istore 4, 2) := by decide +kernel
theorem d_M_drawn_53 : decode c_M_drawn 53 = .ok (.iload 4, 2) := by decide +kernel
theorem d_M_drawn_55 : decode c_M_drawn 55 = .ok (.iconst 1, 1) := by decide +kernel
theorem d_M_drawn_56 : decode c_M_drawn 56 = .ok (.iushr, 1) := by decide +kernel
theorem d_M_drawn_57 : decode c_M_drawn 57 = .ok (.aload_n 0, 1) := by decide +kernel
theorem d_M_drawn_58 : decode c_M_drawn 58 = .ok (.getfield 26, 3) := by decide +kernel
theorem d_M_drawn_61 : decode c_M_drawn 61 = .ok (.iload 5, 2) := by decide +kernel
theorem d_M_drawn_63 : decode c_M_drawn 63 = .ok (.iaload, 1) := by decide +kernel
theorem d_M_drawn_64 : decode c_M_drawn 64 = .ok (.irem, 1) := by decide +kernel
theorem d_M_drawn_65 : decode c_M_drawn 65 = .ok (.istore 7, 2) := by decide +kernel
theorem d_M_drawn_67 : decode c_M_drawn 67 = .ok (.iconst 0, 1) := by decide +kernel
theorem d_M_drawn_68 : decode c_M_drawn 68 = .ok (.istore 8, 2) := by decide +kernel
theorem d_M_drawn_70 : decode c_M_drawn 70 = .ok (.iload 7, 2) := by decide +kernel
theorem d_M_drawn_72 : decode c_M_drawn 72 = .ok (.aload_n 0, 1) := by decide +kernel
theorem d_M_drawn_73 : decode c_M_drawn 73 = .ok (.getfield 23, 3) := by decide +kernel
theorem d_M_drawn_76 : decode c_M_drawn 76 = .ok (.iconst 5, 1) := by decide +kernel
theorem d_M_drawn_77 : decode c_M_drawn 77 = .ok (.iload 5, 2) := by decide +kernel
theorem d_M_drawn_79 : decode c_M_drawn 79 = .ok (.imul, 1) := by decide +kernel
theorem d_M_drawn_80 : decode c_M_drawn 80 = .ok (.iload 8, 2) := by decide +kernel
theorem d_M_drawn_82 : decode c_M_drawn 82 = .ok (.iadd, 1) := by decide +kernel
theorem d_M_drawn_83 : decode c_M_drawn 83 = .ok (.iaload, 1) := by decide +kernel
theorem d_M_drawn_84 : decode c_M_drawn 84 = .ok (.if_icmp .lt 26, 3) := by decide +kernel
theorem d_M_drawn_87 : decode c_M_drawn 87 = .ok (.iload 7, 2) := by decide +kernel
theorem d_M_drawn_89 : decode c_M_drawn 89 = .ok (.aload_n 0, 1) := by decide +kernel
theorem d_M_drawn_90 : decode c_M_drawn 90 = .ok (.getfield 23, 3) := by decide +kernel
theorem d_M_drawn_93 : decode c_M_drawn 93 = .ok (.iconst 5, 1) := by decide +kernel
theorem d_M_drawn_94 : decode c_M_drawn 94 = .ok (.iload 5, 2) := by decide +kernel
theorem d_M_drawn_96 : decode c_M_drawn 96 = .ok (.imul, 1) := by decide +kernel
theorem d_M_drawn_97 : decode c_M_drawn 97 = .ok (.iload 8, 2) := by decide +kernel
theorem d_M_drawn_99 : decode c_M_drawn 99 = .ok (.iadd, 1) := by decide +kernel
theorem d_M_drawn_100 : decode c_M_drawn 100 = .ok (.iaload, 1) := by decide +kernel
theorem d_M_drawn_101 : decode c_M_drawn 101 = .ok (.isub, 1) := by decide +kernel
theorem d_M_drawn_102 : decode c_M_drawn 102 = .ok (.istore 7, 2) := by decide +kernel
theorem d_M_drawn_104 : decode c_M_drawn 104 = .ok (.iinc 8 1, 3) := by decide +kernel
theorem d_M_drawn_107 : decode c_M_drawn 107 = .ok (.goto (-37), 3) := by decide +kernel
theorem d_M_drawn_110 : decode c_M_drawn 110 = .ok (.iload 8, 2) := by decide +kernel
theorem d_M_drawn_112 : decode c_M_drawn 112 = .ok (.istore 5, 2) := by decide +kernel
theorem d_M_drawn_114 : decode c_M_drawn 114 = .ok (.iinc 6 1, 3) := by decide +kernel
theorem d_M_drawn_117 : decode c_M_drawn 117 = .ok (.goto (-80), 3) := by decide +kernel
theorem d_M_drawn_120 : decode c_M_drawn 120 = .ok (.iload 5, 2) := by decide +kernel
theorem d_M_drawn_122 : decode c_M_drawn 122 = .ok (.ireturn, 1) := by decide +kernel
