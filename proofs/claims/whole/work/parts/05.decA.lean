-- decode rows
theorem d_G_init_0 : decode c_G_init 0 = .ok (.aload_n 0, 1) := by decide +kernel
theorem d_G_init_1 : decode c_G_init 1 = .ok (.invokespecial 3, 3) := by decide +kernel
theorem d_G_init_4 : decode c_G_init 4 = .ok (.aload_n 0, 1) := by decide +kernel
theorem d_G_init_5 : decode c_G_init 5 = .ok (.iconst 0, 1) := by decide +kernel
theorem d_G_init_6 : decode c_G_init 6 = .ok (.putfield 9, 3) := by decide +kernel
theorem d_G_init_9 : decode c_G_init 9 = .ok (.aload_n 0, 1) := by decide +kernel
theorem d_G_init_10 : decode c_G_init 10 = .ok (.iconst 1, 1) := by decide +kernel
theorem d_G_init_11 : decode c_G_init 11 = .ok (.putfield 15, 3) := by decide +kernel
theorem d_G_init_14 : decode c_G_init 14 = .ok (.aload_n 0, 1) := by decide +kernel
theorem d_G_init_15 : decode c_G_init 15 = .ok (.iconst 1, 1) := by decide +kernel
theorem d_G_init_16 : decode c_G_init 16 = .ok (.putfield 18, 3) := by decide +kernel
theorem d_G_init_19 : decode c_G_init 19 = .ok (.aload_n 0, 1) := by decide +kernel
theorem d_G_init_20 : decode c_G_init 20 = .ok (.iconst 5, 1) := by decide +kernel
theorem d_G_init_21 : decode c_G_init 21 = .ok (.iconst 5, 1) := by decide +kernel
theorem d_G_init_22 : decode c_G_init 22 = .ok (.multianewarray 21 2, 4) := by decide +kernel
theorem d_G_init_26 : decode c_G_init 26 = .ok (.putfield 23, 3) := by decide +kernel
theorem d_G_init_29 : decode c_G_init 29 = .ok (.aload_n 0, 1) := by decide +kernel
theorem d_G_init_30 : decode c_G_init 30 = .ok (.iconst 5, 1) := by decide +kernel
theorem d_G_init_31 : decode c_G_init 31 = .ok (.newarray .int, 2) := by decide +kernel
theorem d_G_init_33 : decode c_G_init 33 = .ok (.putfield 26, 3) := by decide +kernel
theorem d_G_init_36 : decode c_G_init 36 = .ok (.return_, 1) := by decide +kernel
theorem d_S_init_0 : decode c_S_init 0 = .ok (.aload_n 0, 1) := by decide +kernel
theorem d_S_init_1 : decode c_S_init 1 = .ok (.invokespecial 3, 3) := by decide +kernel
theorem d_S_init_4 : decode c_S_init 4 = .ok (.aload_n 0, 1) := by decide +kernel
theorem d_S_init_5 : decode c_S_init 5 = .ok (.iconst 0, 1) := by decide +kernel
theorem d_S_init_6 : decode c_S_init 6 = .ok (.putfield 9, 3) := by decide +kernel
theorem d_S_init_9 : decode c_S_init 9 = .ok (.aload_n 0, 1) := by decide +kernel
theorem d_S_init_10 : decode c_S_init 10 = .ok (.iconst 5, 1) := by decide +kernel
theorem d_S_init_11 : decode c_S_init 11 = .ok (.iconst 5, 1) := by decide +kernel
theorem d_S_init_12 : decode c_S_init 12 = .ok (.multianewarray 15 2, 4) := by decide +kernel
theorem d_S_init_16 : decode c_S_init 16 = .ok (.putfield 17, 3) := by decide +kernel
theorem d_S_init_19 : decode c_S_init 19 = .ok (.aload_n 0, 1) := by decide +kernel
theorem d_S_init_20 : decode c_S_init 20 = .ok (.iconst 5, 1) := by decide +kernel
theorem d_S_init_21 : decode c_S_init 21 = .ok (.newarray .int, 2) := by decide +kernel
theorem d_S_init_23 : decode c_S_init 23 = .ok (.putfield 20, 3) := by decide +kernel
theorem d_S_init_26 : decode c_S_init 26 = .ok (.aload_n 0, 1) := by decide +kernel
theorem d_S_init_27 : decode c_S_init 27 = .ok (.iconst 5, 1) := by decide +kernel
theorem d_S_init_28 : decode c_S_init 28 = .ok (.newarray .int, 2) := by decide +kernel
theorem d_S_init_30 : decode c_S_init 30 = .ok (.putfield 24, 3) := by decide +kernel
theorem d_S_init_33 : decode c_S_init 33 = .ok (.return_, 1) := by decide +kernel
theorem d_C_init_0 : decode c_C_init 0 = .ok (.aload_n 0, 1) := by decide +kernel
theorem d_C_init_1 : decode c_C_init 1 = .ok (.invokespecial 3, 3) := by decide +kernel
theorem d_C_init_4 : decode c_C_init 4 = .ok (.aload_n 0, 1) := by decide +kernel
theorem d_C_init_5 : decode c_C_init 5 = .ok (.iconst 0, 1) := by decide +kernel
theorem d_C_init_6 : decode c_C_init 6 = .ok (.putfield 9, 3) := by decide +kernel
theorem d_C_init_9 : decode c_C_init 9 = .ok (.aload_n 0, 1) := by decide +kernel
theorem d_C_init_10 : decode c_C_init 10 = .ok (.iconst 5, 1) := by decide +kernel
theorem d_C_init_11 : decode c_C_init 11 = .ok (.newarray .int, 2) := by decide +kernel
theorem d_C_init_13 : decode c_C_init 13 = .ok (.putfield 15, 3) := by decide +kernel
theorem d_C_init_16 : decode c_C_init 16 = .ok (.aload_n 0, 1) := by decide +kernel
theorem d_C_init_17 : decode c_C_init 17 = .ok (.iconst 5, 1) := by decide +kernel
theorem d_C_init_18 : decode c_C_init 18 = .ok (.newarray .int, 2) := by decide +kernel
theorem d_C_init_20 : decode c_C_init 20 = .ok (.putfield 19, 3) := by decide +kernel
theorem d_C_init_23 : decode c_C_init 23 = .ok (.aload_n 0, 1) := by decide +kernel
theorem d_C_init_24 : decode c_C_init 24 = .ok (.iconst 5, 1) := by decide +kernel
theorem d_C_init_25 : decode c_C_init 25 = .ok (.newarray .int, 2) := by decide +kernel
theorem d_C_init_27 : decode c_C_init 27 = .ok (.putfield 22, 3) := by decide +kernel
theorem d_C_init_30 : decode c_C_init 30 = .ok (.aload_n 0, 1) := by decide +kernel
theorem d_C_init_31 : decode c_C_init 31 = .ok (.iconst 0, 1) := by decide +kernel
theorem d_C_init_32 : decode c_C_init 32 = .ok (.putfield 25, 3) := by decide +kernel
theorem d_C_init_35 : decode c_C_init 35 = .ok (.aload_n 0, 1) := by decide +kernel
theorem d_C_init_36 : decode c_C_init 36 = .ok (.iconst 5, 1) := by decide +kernel
theorem d_C_init_37 : decode c_C_init 37 = .ok (.newarray .int, 2) := by decide +kernel
theorem d_C_init_39 : decode c_C_init 39 = .ok (.putfield 28, 3) := by decide +kernel
theorem d_C_init_42 : decode c_C_init 42 = .ok (.return_, 1) := by decide +kernel
theorem d_E_init_0 : decode c_E_init 0 = .ok (.aload_n 0, 1) := by decide +kernel
theorem d_E_init_1 : decode c_E_init 1 = .ok (.invokespecial 3, 3) := by decide +kernel
theorem d_E_init_4 : decode c_E_init 4 = .ok (.aload_n 0, 1) := by decide +kernel
theorem d_E_init_5 : decode c_E_init 5 = .ok (.iconst 0, 1) := by decide +kernel
theorem d_E_init_6 : decode c_E_init 6 = .ok (.putfield 9, 3) := by decide +kernel
theorem d_E_init_9 : decode c_E_init 9 = .ok (.aload_n 0, 1) := by decide +kernel
theorem d_E_init_10 : decode c_E_init 10 = .ok (.iconst 5, 1) := by decide +kernel
theorem d_E_init_11 : decode c_E_init 11 = .ok (.iconst 5, 1) := by decide +kernel
theorem d_E_init_12 : decode c_E_init 12 = .ok (.multianewarray 15 2, 4) := by decide +kernel
theorem d_E_init_16 : decode c_E_init 16 = .ok (.putfield 17, 3) := by decide +kernel
theorem d_E_init_19 : decode c_E_init 19 = .ok (.return_, 1) := by decide +kernel
theorem d_P_init_0 : decode c_P_init 0 = .ok (.aload_n 0, 1) := by decide +kernel
theorem d_P_init_1 : decode c_P_init 1 = .ok (.invokespecial 3, 3) := by decide +kernel
theorem d_P_init_4 : decode c_P_init 4 = .ok (.aload_n 0, 1) := by decide +kernel
theorem d_P_init_5 : decode c_P_init 5 = .ok (.iconst 5, 1) := by decide +kernel
theorem d_P_init_6 : decode c_P_init 6 = .ok (.newarray .long, 2) := by decide +kernel
theorem d_P_init_8 : decode c_P_init 8 = .ok (.putfield 9, 3) := by decide +kernel
theorem d_P_init_11 : decode c_P_init 11 = .ok (.aload_n 0, 1) := by decide +kernel
theorem d_P_init_12 : decode c_P_init 12 = .ok (.iconst 5, 1) := by decide +kernel
theorem d_P_init_13 : decode c_P_init 13 = .ok (.newarray .long, 2) := by decide +kernel
theorem d_P_init_15 : decode c_P_init 15 = .ok (.putfield 15, 3) := by decide +kernel
theorem d_P_init_18 : decode c_P_init 18 = .ok (.aload_n 0, 1) := by decide +kernel
theorem d_P_init_19 : decode c_P_init 19 = .ok (.iconst 0, 1) := by decide +kernel
theorem d_P_init_20 : decode c_P_init 20 = .ok (.putfield 18, 3) := by decide +kernel
theorem d_P_init_23 : decode c_P_init 23 = .ok (.aload_n 0, 1) := by decide +kernel
theorem d_P_init_24 : decode c_P_init 24 = .ok (.iconst 5, 1) := by decide +kernel
theorem d_P_init_25 : decode c_P_init 25 = .ok (.iconst 5, 1) := by decide +kernel
theorem d_P_init_26 : decode c_P_init 26 = .ok (.multianewarray 22 2, 4) := by decide +kernel
theorem d_P_init_30 : decode c_P_init 30 = .ok (.putfield 24, 3) := by decide +kernel
theorem d_P_init_33 : decode c_P_init 33 = .ok (.return_, 1) := by decide +kernel
theorem d_G_addNode_0 : decode c_G_addNode 0 = .ok (.aload_n 0, 1) := by decide +kernel
theorem d_G_addNode_1 : decode c_G_addNode 1 = .ok (.getfield 9, 3) := by decide +kernel
theorem d_G_addNode_4 : decode c_G_addNode 4 = .ok (.istore_n 1, 1) := by decide +kernel
theorem d_G_addNode_5 : decode c_G_addNode 5 = .ok (.iconst 0, 1) := by decide +kernel
theorem d_G_addNode_6 : decode c_G_addNode 6 = .ok (.istore_n 2, 1) := by decide +kernel
theorem d_G_addNode_7 : decode c_G_addNode 7 = .ok (.iload_n 2, 1) := by decide +kernel
theorem d_G_addNode_8 : decode c_G_addNode 8 = .ok (.iload_n 1, 1) := by decide +kernel
theorem d_G_addNode_9 : decode c_G_addNode 9 = .ok (.if_icmp .gt 27, 3) := by decide +kernel
theorem d_G_addNode_12 : decode c_G_addNode 12 = .ok (.aload_n 0, 1) := by decide +kernel
theorem d_G_addNode_13 : decode c_G_addNode 13 = .ok (.getfield 23, 3) := by decide +kernel
theorem d_G_addNode_16 : decode c_G_addNode 16 = .ok (.iload_n 1, 1) := by decide +kernel
theorem d_G_addNode_17 : decode c_G_addNode 17 = .ok (.aaload, 1) := by decide +kernel
theorem d_G_addNode_18 : decode c_G_addNode 18 = .ok (.iload_n 2, 1) := by decide +kernel
theorem d_G_addNode_19 : decode c_G_addNode 19 = .ok (.iconst 0, 1) := by decide +kernel
theorem d_G_addNode_20 : decode c_G_addNode 20 = .ok (.iastore, 1) := by decide +kernel
theorem d_G_addNode_21 : decode c_G_addNode 21 = .ok (.aload_n 0, 1) := by decide +kernel
theorem d_G_addNode_22 : decode c_G_addNode 22 = .ok (.getfield 23, 3) := by decide +kernel
theorem d_G_addNode_25 : decode c_G_addNode 25 = .ok (.iload_n 2, 1) := by decide +kernel
theorem d_G_addNode_26 : decode c_G_addNode 26 = .ok (.aaload, 1) := by decide +kernel
theorem d_G_addNode_27 : decode c_G_addNode 27 = .ok (.iload_n 1, 1) := by decide +kernel
theorem d_G_addNode_28 : decode c_G_addNode 28 = .ok (.iconst 0, 1) := by decide +kernel
theorem d_G_addNode_29 : decode c_G_addNode 29 = .ok (.iastore, 1) := by decide +kernel
theorem d_G_addNode_30 : decode c_G_addNode 30 = .ok (.iinc 2 1, 3) := by decide +kernel
theorem d_G_addNode_33 : decode c_G_addNode 33 = .ok (.goto (-26), 3) := by decide +kernel
theorem d_G_addNode_36 : decode c_G_addNode 36 = .ok (.aload_n 0, 1) := by decide +kernel
theorem d_G_addNode_37 : decode c_G_addNode 37 = .ok (.getfield 26, 3) := by decide +kernel
theorem d_G_addNode_40 : decode c_G_addNode 40 = .ok (.iload_n 1, 1) := by decide +kernel
theorem d_G_addNode_41 : decode c_G_addNode 41 = .ok (.iconst 1, 1) := by decide +kernel
theorem d_G_addNode_42 : decode c_G_addNode 42 = .ok (.iastore, 1) := by decide +kernel
theorem d_G_addNode_43 : decode c_G_addNode 43 = .ok (.aload_n 0, 1) := by decide +kernel
theorem d_G_addNode_44 : decode c_G_addNode 44 = .ok (.dup, 1) := by decide +kernel
theorem d_G_addNode_45 : decode c_G_addNode 45 = .ok (.getfield 9, 3) := by decide +kernel
theorem d_G_addNode_48 : decode c_G_addNode 48 = .ok (.iconst 1, 1) := by decide +kernel
theorem d_G_addNode_49 : decode c_G_addNode 49 = .ok (.iadd, 1) := by decide +kernel
theorem d_G_addNode_50 : decode c_G_addNode 50 = .ok (.putfield 9, 3) := by decide +kernel
theorem d_G_addNode_53 : decode c_G_addNode 53 = .ok (.iload_n 1, 1) := by decide +kernel
theorem d_G_addNode_54 : decode c_G_addNode 54 = .ok (.ireturn, 1) := by decide +kernel
theorem d_S_renew_0 : decode c_S_renew 0 = .ok (.aload_n 0, 1) := by decide +kernel
theorem d_S_renew_1 : decode c_S_renew 1 = .ok (.aload_n 1, 1) := by decide +kernel
theorem d_S_renew_2 : decode c_S_renew 2 = .ok (.getfield 27, 3) := by decide +kernel
theorem d_S_renew_5 : decode c_S_renew 5 = .ok (.putfield 9, 3) := by decide +kernel
theorem d_S_renew_8 : decode c_S_renew 8 = .ok (.aload_n 1, 1) := by decide +kernel
theorem d_S_renew_9 : decode c_S_renew 9 = .ok (.invokevirtual 30, 3) := by decide +kernel
theorem d_S_renew_12 : decode c_S_renew 12 = .ok (.istore_n 2, 1) := by decide +kernel
theorem d_S_renew_13 : decode c_S_renew 13 = .ok (.iconst 0, 1) := by decide +kernel
theorem d_S_renew_14 : decode c_S_renew 14 = .ok (.istore_n 3, 1) := by decide +kernel
theorem d_S_renew_15 : decode c_S_renew 15 = .ok (.iload_n 3, 1) := by decide +kernel
theorem d_S_renew_16 : decode c_S_renew 16 = .ok (.aload_n 0, 1) := by decide +kernel
theorem d_S_renew_17 : decode c_S_renew 17 = .ok (.getfield 9, 3) := by decide +kernel
theorem d_S_renew_20 : decode c_S_renew 20 = .ok (.if_icmp .ge 26, 3) := by decide +kernel
theorem d_S_renew_23 : decode c_S_renew 23 = .ok (.aload_n 0, 1) := by decide +kernel
theorem d_S_renew_24 : decode c_S_renew 24 = .ok (.aload_n 1, 1) := by decide +kernel
theorem d_S_renew_25 : decode c_S_renew 25 = .ok (.iload_n 3, 1) := by decide +kernel
theorem d_S_renew_26 : decode c_S_renew 26 = .ok (.iload_n 2, 1) := by decide +kernel
theorem d_S_renew_27 : decode c_S_renew 27 = .ok (.invokevirtual 34, 3) := by decide +kernel
theorem d_S_renew_30 : decode c_S_renew 30 = .ok (.aload_n 0, 1) := by decide +kernel
theorem d_S_renew_31 : decode c_S_renew 31 = .ok (.iload_n 3, 1) := by decide +kernel
theorem d_S_renew_32 : decode c_S_renew 32 = .ok (.invokevirtual 38, 3) := by decide +kernel
theorem d_S_renew_35 : decode c_S_renew 35 = .ok (.aload_n 0, 1) := by decide +kernel
theorem d_S_renew_36 : decode c_S_renew 36 = .ok (.iload_n 3, 1) := by decide +kernel
theorem d_S_renew_37 : decode c_S_renew 37 = .ok (.invokevirtual 42, 3) := by decide +kernel
theorem d_S_renew_40 : decode c_S_renew 40 = .ok (.iinc 3 1, 3) := by decide +kernel
theorem d_S_renew_43 : decode c_S_renew 43 = .ok (.goto (-28), 3) := by decide +kernel
theorem d_S_renew_46 : decode c_S_renew 46 = .ok (.return_, 1) := by decide +kernel
theorem d_G_allJumps_0 : decode c_G_allJumps 0 = .ok (.iconst 0, 1) := by decide +kernel
theorem d_G_allJumps_1 : decode c_G_allJumps 1 = .ok (.istore_n 1, 1) := by decide +kernel
theorem d_G_allJumps_2 : decode c_G_allJumps 2 = .ok (.iconst 0, 1) := by decide +kernel
theorem d_G_allJumps_3 : decode c_G_allJumps 3 = .ok (.istore_n 2, 1) := by decide +kernel
theorem d_G_allJumps_4 : decode c_G_allJumps 4 = .ok (.iload_n 2, 1) := by decide +kernel
theorem d_G_allJumps_5 : decode c_G_allJumps 5 = .ok (.aload_n 0, 1) := by decide +kernel
theorem d_G_allJumps_6 : decode c_G_allJumps 6 = .ok (.getfield 9, 3) := by decide +kernel
theorem d_G_allJumps_9 : decode c_G_allJumps 9 = .ok (.if_icmp .ge 18, 3) := by decide +kernel
theorem d_G_allJumps_12 : decode c_G_allJumps 12 = .ok (.iload_n 1, 1) := by decide +kernel
theorem d_G_allJumps_13 : decode c_G_allJumps 13 = .ok (.aload_n 0, 1) := by decide +kernel
theorem d_G_allJumps_14 : decode c_G_allJumps 14 = .ok (.getfield 26, 3) := by decide +kernel
theorem d_G_allJumps_17 : decode c_G_allJumps 17 = .ok (.iload_n 2, 1) := by decide +kernel
theorem d_G_allJumps_18 : decode c_G_allJumps 18 = .ok (.iaload, 1) := by decide +kernel
theorem d_G_allJumps_19 : decode c_G_allJumps 19 = .ok (.iadd, 1) := by decide +kernel
theorem d_G_allJumps_20 : decode c_G_allJumps 20 = .ok (.istore_n 1, 1) := by decide +kernel
theorem d_G_allJumps_21 : decode c_G_allJumps 21 = .ok (.iinc 2 1, 3) := by decide +kernel
theorem d_G_allJumps_24 : decode c_G_allJumps 24 = .ok (.goto (-20), 3) := by decide +kernel
theorem d_G_allJumps_27 : decode c_G_allJumps 27 = .ok (.iload_n 1, 1) := by decide +kernel
theorem d_G_allJumps_28 : decode c_G_allJumps 28 = .ok (.ireturn, 1) := by decide +kernel
theorem d_S_fillParts_0 : decode c_S_fillParts 0 = .ok (.aload_n 1, 1) := by decide +kernel
theorem d_S_fillParts_1 : decode c_S_fillParts 1 = .ok (.iload_n 2, 1) := by decide +kernel
theorem d_S_fillParts_2 : decode c_S_fillParts 2 = .ok (.invokevirtual 45, 3) := by decide +kernel
theorem d_S_fillParts_5 : decode c_S_fillParts 5 = .ok (.istore 4, 2) := by decide +kernel
theorem d_S_fillParts_7 : decode c_S_fillParts 7 = .ok (.iload 4, 2) := by decide +kernel
theorem d_S_fillParts_9 : decode c_S_fillParts 9 = .ok (.ifCond .le 7, 3) := by decide +kernel
theorem d_S_fillParts_12 : decode c_S_fillParts 12 = .ok (.iconst 1, 1) := by decide +kernel
theorem d_S_fillParts_13 : decode c_S_fillParts 13 = .ok (.goto 4, 3) := by decide +kernel
theorem d_S_fillParts_16 : decode c_S_fillParts 16 = .ok (.iconst 0, 1) := by decide +kernel
theorem d_S_fillParts_17 : decode c_S_fillParts 17 = .ok (.istore 5, 2) := by decide +kernel
theorem d_S_fillParts_19 : decode c_S_fillParts 19 = .ok (.iload 4, 2) := by decide +kernel
theorem d_S_fillParts_21 : decode c_S_fillParts 21 = .ok (.ifCond .le 7, 3) := by decide +kernel
theorem d_S_fillParts_24 : decode c_S_fillParts 24 = .ok (.iconst 0, 1) := by decide +kernel
theorem d_S_fillParts_25 : decode c_S_fillParts 25 = .ok (.goto 4, 3) := by decide +kernel
theorem d_S_fillParts_28 : decode c_S_fillParts 28 = .ok (.iconst 1, 1) := by decide +kernel
theorem d_S_fillParts_29 : decode c_S_fillParts 29 = .ok (.istore 6, 2) := by decide +kernel
theorem d_S_fillParts_31 : decode c_S_fillParts 31 = .ok (.iload 4, 2) := by decide +kernel
theorem d_S_fillParts_33 : decode c_S_fillParts 33 = .ok (.ifCond .le 29, 3) := by decide +kernel
theorem d_S_fillParts_36 : decode c_S_fillParts 36 = .ok (.iload_n 3, 1) := by decide +kernel
theorem d_S_fillParts_37 : decode c_S_fillParts 37 = .ok (.ifCond .le 25, 3) := by decide +kernel
theorem d_S_fillParts_40 : decode c_S_fillParts 40 = .ok (.aload_n 1, 1) := by decide +kernel
theorem d_S_fillParts_41 : decode c_S_fillParts 41 = .ok (.getfield 49, 3) := by decide +kernel
theorem d_S_fillParts_44 : decode c_S_fillParts 44 = .ok (.iload_n 3, 1) := by decide +kernel
theorem d_S_fillParts_45 : decode c_S_fillParts 45 = .ok (.imul, 1) := by decide +kernel
theorem d_S_fillParts_46 : decode c_S_fillParts 46 = .ok (.istore 5, 2) := by decide +kernel
theorem d_S_fillParts_48 : decode c_S_fillParts 48 = .ok (.aload_n 1, 1) := by decide +kernel
theorem d_S_fillParts_49 : decode c_S_fillParts 49 = .ok (.getfield 52, 3) := by decide +kernel
theorem d_S_fillParts_52 : decode c_S_fillParts 52 = .ok (.aload_n 1, 1) := by decide +kernel
theorem d_S_fillParts_53 : decode c_S_fillParts 53 = .ok (.getfield 49, 3) := by decide +kernel
theorem d_S_fillParts_56 : decode c_S_fillParts 56 = .ok (.isub, 1) := by decide +kernel
theorem d_S_fillParts_57 : decode c_S_fillParts 57 = .ok (.iload 4, 2) := by decide +kernel
theorem d_S_fillParts_59 : decode c_S_fillParts 59 = .ok (.imul, 1) := by decide +kernel
theorem d_S_fillParts_60 : decode c_S_fillParts 60 = .ok (.istore 6, 2) := by decide +kernel
theorem d_S_fillParts_62 : decode c_S_fillParts 62 = .ok (.iconst 0, 1) := by decide +kernel
theorem d_S_fillParts_63 : decode c_S_fillParts 63 = .ok (.istore 7, 2) := by decide +kernel
theorem d_S_fillParts_65 : decode c_S_fillParts 65 = .ok (.iload 7, 2) := by decide +kernel
theorem d_S_fillParts_67 : decode c_S_fillParts 67 = .ok (.aload_n 0, 1) := by decide +kernel
theorem d_S_fillParts_68 : decode c_S_fillParts 68 = .ok (.getfield 9, 3) := by decide +kernel
theorem d_S_fillParts_71 : decode c_S_fillParts 71 = .ok (.if_icmp .ge 41, 3) := by decide +kernel
theorem d_S_fillParts_74 : decode c_S_fillParts 74 = .ok (.aload_n 0, 1) := by decide +kernel
theorem d_S_fillParts_75 : decode c_S_fillParts 75 = .ok (.getfield 17, 3) := by decide +kernel
theorem d_S_fillParts_78 : decode c_S_fillParts 78 = .ok (.iload_n 2, 1) := by decide +kernel
theorem d_S_fillParts_79 : decode c_S_fillParts 79 = .ok (.aaload, 1) := by decide +kernel
theorem d_S_fillParts_80 : decode c_S_fillParts 80 = .ok (.iload 7, 2) := by decide +kernel
theorem d_S_fillParts_82 : decode c_S_fillParts 82 = .ok (.iload 5, 2) := by decide +kernel
theorem d_S_fillParts_84 : decode c_S_fillParts 84 = .ok (.aload_n 1, 1) := by decide +kernel
theorem d_S_fillParts_85 : decode c_S_fillParts 85 = .ok (.getfield 55, 3) := by decide +kernel
theorem d_S_fillParts_88 : decode c_S_fillParts 88 = .ok (.iload_n 2, 1) := by decide +kernel
theorem d_S_fillParts_89 : decode c_S_fillParts 89 = .ok (.aaload, 1) := by decide +kernel
theorem d_S_fillParts_90 : decode c_S_fillParts 90 = .ok (.iload 7, 2) := by decide +kernel
theorem d_S_fillParts_92 : decode c_S_fillParts 92 = .ok (.iaload, 1) := by decide +kernel
theorem d_S_fillParts_93 : decode c_S_fillParts 93 = .ok (.imul, 1) := by decide +kernel
theorem d_S_fillParts_94 : decode c_S_fillParts 94 = .ok (.iload 6, 2) := by decide +kernel
theorem d_S_fillParts_96 : decode c_S_fillParts 96 = .ok (.aload_n 1, 1) := by decide +kernel
theorem d_S_fillParts_97 : decode c_S_fillParts 97 = .ok (.getfield 58, 3) := by decide +kernel
theorem d_S_fillParts_100 : decode c_S_fillParts 100 = .ok (.iload 7, 2) := by decide +kernel
theorem d_S_fillParts_102 : decode c_S_fillParts 102 = .ok (.iaload, 1) := by decide +kernel
theorem d_S_fillParts_103 : decode c_S_fillParts 103 = .ok (.imul, 1) := by decide +kernel
theorem d_S_fillParts_104 : decode c_S_fillParts 104 = .ok (.iadd, 1) := by decide +kernel
theorem d_S_fillParts_105 : decode c_S_fillParts 105 = .ok (.iastore, 1) := by decide +kernel
theorem d_S_fillParts_106 : decode c_S_fillParts 106 = .ok (.iinc 7 1, 3) := by decide +kernel
theorem d_S_fillParts_109 : decode c_S_fillParts 109 = .ok (.goto (-44), 3) := by decide +kernel
theorem d_S_fillParts_112 : decode c_S_fillParts 112 = .ok (.iload 4, 2) := by decide +kernel
theorem d_S_fillParts_114 : decode c_S_fillParts 114 = .ok (.ifCond .ne 16, 3) := by decide +kernel
theorem d_S_fillParts_117 : decode c_S_fillParts 117 = .ok (.iload_n 3, 1) := by decide +kernel
theorem d_S_fillParts_118 : decode c_S_fillParts 118 = .ok (.ifCond .ne 12, 3) := by decide +kernel
theorem d_S_fillParts_121 : decode c_S_fillParts 121 = .ok (.aload_n 0, 1) := by decide +kernel
theorem d_S_fillParts_122 : decode c_S_fillParts 122 = .ok (.getfield 17, 3) := by decide +kernel
theorem d_S_fillParts_125 : decode c_S_fillParts 125 = .ok (.iload_n 2, 1) := by decide +kernel
theorem d_S_fillParts_126 : decode c_S_fillParts 126 = .ok (.aaload, 1) := by decide +kernel
theorem d_S_fillParts_127 : decode c_S_fillParts 127 = .ok (.iload_n 2, 1) := by decide +kernel
theorem d_S_fillParts_128 : decode c_S_fillParts 128 = .ok (.iconst 1, 1) := by decide +kernel
theorem d_S_fillParts_129 : decode c_S_fillParts 129 = .ok (.iastore, 1) := by decide +kernel
theorem d_S_fillParts_130 : decode c_S_fillParts 130 = .ok (.return_, 1) := by decide +kernel
theorem d_G_outOf_0 : decode c_G_outOf 0 = .ok (.iconst 0, 1) := by decide +kernel
theorem d_G_outOf_1 : decode c_G_outOf 1 = .ok (.istore_n 2, 1) := by decide +kernel
theorem d_G_outOf_2 : decode c_G_outOf 2 = .ok (.iconst 0, 1) := by decide +kernel
theorem d_G_outOf_3 : decode c_G_outOf 3 = .ok (.istore_n 3, 1) := by decide +kernel
theorem d_G_outOf_4 : decode c_G_outOf 4 = .ok (.iload_n 3, 1) := by decide +kernel
theorem d_G_outOf_5 : decode c_G_outOf 5 = .ok (.aload_n 0, 1) := by decide +kernel
theorem d_G_outOf_6 : decode c_G_outOf 6 = .ok (.getfield 9, 3) := by decide +kernel
theorem d_G_outOf_9 : decode c_G_outOf 9 = .ok (.if_icmp .ge 20, 3) := by decide +kernel
theorem d_G_outOf_12 : decode c_G_outOf 12 = .ok (.iload_n 2, 1) := by decide +kernel
theorem d_G_outOf_13 : decode c_G_outOf 13 = .ok (.aload_n 0, 1) := by decide +kernel
theorem d_G_outOf_14 : decode c_G_outOf 14 = .ok (.getfield 23, 3) := by decide +kernel
theorem d_G_outOf_17 : decode c_G_outOf 17 = .ok (.iload_n 1, 1) := by decide +kernel
theorem d_G_outOf_18 : decode c_G_outOf 18 = .ok (.aaload, 1) := by decide +kernel
theorem d_G_outOf_19 : decode c_G_outOf 19 = .ok (.iload_n 3, 1) := by decide +kernel
theorem d_G_outOf_20 : decode c_G_outOf 20 = .ok (.iaload, 1) := by decide +kernel
theorem d_G_outOf_21 : decode c_G_outOf 21 = .ok (.iadd, 1) := by decide +kernel
theorem d_G_outOf_22 : decode c_G_outOf 22 = .ok (.istore_n 2, 1) := by decide +kernel
theorem d_G_outOf_23 : decode c_G_outOf 23 = .ok (.iinc 3 1, 3) := by decide +kernel
theorem d_G_outOf_26 : decode c_G_outOf 26 = .ok (.goto (-22), 3) := by decide +kernel
theorem d_G_outOf_29 : decode c_G_outOf 29 = .ok (.iload_n 2, 1) := by decide +kernel
theorem d_G_outOf_30 : decode c_G_outOf 30 = .ok (.ireturn, 1) := by decide +kernel
theorem d_S_lowerParts_0 : decode c_S_lowerParts 0 = .ok (.iconst 0, 1) := by decide +kernel
theorem d_S_lowerParts_1 : decode c_S_lowerParts 1 = .ok (.istore_n 2, 1) := by decide +kernel
theorem d_S_lowerParts_2 : decode c_S_lowerParts 2 = .ok (.iconst 0, 1) := by decide +kernel
theorem d_S_lowerParts_3 : decode c_S_lowerParts 3 = .ok (.istore_n 3, 1) := by decide +kernel
theorem d_S_lowerParts_4 : decode c_S_lowerParts 4 = .ok (.iload_n 3, 1) := by decide +kernel
theorem d_S_lowerParts_5 : decode c_S_lowerParts 5 = .ok (.aload_n 0, 1) := by decide +kernel
theorem d_S_lowerParts_6 : decode c_S_lowerParts 6 = .ok (.getfield 9, 3) := by decide +kernel
theorem d_S_lowerParts_9 : decode c_S_lowerParts 9 = .ok (.if_icmp .ge 25, 3) := by decide +kernel
theorem d_S_lowerParts_12 : decode c_S_lowerParts 12 = .ok (.iload_n 2, 1) := by decide +kernel
theorem d_S_lowerParts_13 : decode c_S_lowerParts 13 = .ok (.i2l, 1) := by decide +kernel
theorem d_S_lowerParts_14 : decode c_S_lowerParts 14 = .ok (.aload_n 0, 1) := by decide +kernel
theorem d_S_lowerParts_15 : decode c_S_lowerParts 15 = .ok (.getfield 17, 3) := by decide +kernel
theorem d_S_lowerParts_18 : decode c_S_lowerParts 18 = .ok (.iload_n 1, 1) := by decide +kernel
theorem d_S_lowerParts_19 : decode c_S_lowerParts 19 = .ok (.aaload, 1) := by decide +kernel
theorem d_S_lowerParts_20 : decode c_S_lowerParts 20 = .ok (.iload_n 3, 1) := by decide +kernel
theorem d_S_lowerParts_21 : decode c_S_lowerParts 21 = .ok (.iaload, 1) := by decide +kernel
theorem d_S_lowerParts_22 : decode c_S_lowerParts 22 = .ok (.i2l, 1) := by decide +kernel
theorem d_S_lowerParts_23 : decode c_S_lowerParts 23 = .ok (.invokestatic 61, 3) := by decide +kernel
theorem d_S_lowerParts_26 : decode c_S_lowerParts 26 = .ok (.l2i, 1) := by decide +kernel
theorem d_S_lowerParts_27 : decode c_S_lowerParts 27 = .ok (.istore_n 2, 1) := by decide +kernel
theorem d_S_lowerParts_28 : decode c_S_lowerParts 28 = .ok (.iinc 3 1, 3) := by decide +kernel
theorem d_S_lowerParts_31 : decode c_S_lowerParts 31 = .ok (.goto (-27), 3) := by decide +kernel
theorem d_S_lowerParts_34 : decode c_S_lowerParts 34 = .ok (.iload_n 2, 1) := by decide +kernel
theorem d_S_lowerParts_35 : decode c_S_lowerParts 35 = .ok (.ifCond .ne 4, 3) := by decide +kernel
theorem d_S_lowerParts_38 : decode c_S_lowerParts 38 = .ok (.return_, 1) := by decide +kernel
theorem d_S_lowerParts_39 : decode c_S_lowerParts 39 = .ok (.iconst 0, 1) := by decide +kernel
theorem d_S_lowerParts_40 : decode c_S_lowerParts 40 = .ok (.istore_n 3, 1) := by decide +kernel
theorem d_S_lowerParts_41 : decode c_S_lowerParts 41 = .ok (.iload_n 3, 1) := by decide +kernel
theorem d_S_lowerParts_42 : decode c_S_lowerParts 42 = .ok (.aload_n 0, 1) := by decide +kernel
theorem d_S_lowerParts_43 : decode c_S_lowerParts 43 = .ok (.getfield 9, 3) := by decide +kernel
theorem d_S_lowerParts_46 : decode c_S_lowerParts 46 = .ok (.if_icmp .ge 21, 3) := by decide +kernel
theorem d_S_lowerParts_49 : decode c_S_lowerParts 49 = .ok (.aload_n 0, 1) := by decide +kernel
theorem d_S_lowerParts_50 : decode c_S_lowerParts 50 = .ok (.getfield 17, 3) := by decide +kernel
theorem d_S_lowerParts_53 : decode c_S_lowerParts 53 = .ok (.iload_n 1, 1) := by decide +kernel
theorem d_S_lowerParts_54 : decode c_S_lowerParts 54 = .ok (.aaload, 1) := by decide +kernel
theorem d_S_lowerParts_55 : decode c_S_lowerParts 55 = .ok (.iload_n 3, 1) := by decide +kernel
theorem d_S_lowerParts_56 : decode c_S_lowerParts 56 = .ok (.dup2, 1) := by decide +kernel
theorem d_S_lowerParts_57 : decode c_S_lowerParts 57 = .ok (.iaload, 1) := by decide +kernel
theorem d_S_lowerParts_58 : decode c_S_lowerParts 58 = .ok (.iload_n 2, 1) := by decide +kernel
theorem d_S_lowerParts_59 : decode c_S_lowerParts 59 = .ok (.idiv, 1) := by decide +kernel
theorem d_S_lowerParts_60 : decode c_S_lowerParts 60 = .ok (.iastore, 1) := by decide +kernel
theorem d_S_lowerParts_61 : decode c_S_lowerParts 61 = .ok (.iinc 3 1, 3) := by decide +kernel
theorem d_S_lowerParts_64 : decode c_S_lowerParts 64 = .ok (.goto (-23), 3) := by decide +kernel
theorem d_S_lowerParts_67 : decode c_S_lowerParts 67 = .ok (.return_, 1) := by decide +kernel
theorem d_S_sumUp_0 : decode c_S_sumUp 0 = .ok (.aload_n 0, 1) := by decide +kernel
theorem d_S_sumUp_1 : decode c_S_sumUp 1 = .ok (.getfield 20, 3) := by decide +kernel
theorem d_S_sumUp_4 : decode c_S_sumUp 4 = .ok (.iload_n 1, 1) := by decide +kernel
theorem d_S_sumUp_5 : decode c_S_sumUp 5 = .ok (.iconst 0, 1) := by decide +kernel
theorem d_S_sumUp_6 : decode c_S_sumUp 6 = .ok (.iastore, 1) := by decide +kernel
theorem d_S_sumUp_7 : decode c_S_sumUp 7 = .ok (.aload_n 0, 1) := by decide +kernel
theorem d_S_sumUp_8 : decode c_S_sumUp 8 = .ok (.getfield 24, 3) := by decide +kernel
theorem d_S_sumUp_11 : decode c_S_sumUp 11 = .ok (.iload_n 1, 1) := by decide +kernel
theorem d_S_sumUp_12 : decode c_S_sumUp 12 = .ok (.iconst 0, 1) := by decide +kernel
theorem d_S_sumUp_13 : decode c_S_sumUp 13 = .ok (.iastore, 1) := by decide +kernel
theorem d_S_sumUp_14 : decode c_S_sumUp 14 = .ok (.iconst 0, 1) := by decide +kernel
theorem d_S_sumUp_15 : decode c_S_sumUp 15 = .ok (.istore_n 2, 1) := by decide +kernel
theorem d_S_sumUp_16 : decode c_S_sumUp 16 = .ok (.iload_n 2, 1) := by decide +kernel
theorem d_S_sumUp_17 : decode c_S_sumUp 17 = .ok (.aload_n 0, 1) := by decide +kernel
theorem d_S_sumUp_18 : decode c_S_sumUp 18 = .ok (.getfield 9, 3) := by decide +kernel
theorem d_S_sumUp_21 : decode c_S_sumUp 21 = .ok (.if_icmp .ge 50, 3) := by decide +kernel
theorem d_S_sumUp_24 : decode c_S_sumUp 24 = .ok (.aload_n 0, 1) := by decide +kernel
theorem d_S_sumUp_25 : decode c_S_sumUp 25 = .ok (.getfield 20, 3) := by decide +kernel
theorem d_S_sumUp_28 : decode c_S_sumUp 28 = .ok (.iload_n 1, 1) := by decide +kernel
theorem d_S_sumUp_29 : decode c_S_sumUp 29 = .ok (.dup2, 1) := by decide +kernel
theorem d_S_sumUp_30 : decode c_S_sumUp 30 = .ok (.iaload, 1) := by decide +kernel
theorem d_S_sumUp_31 : decode c_S_sumUp 31 = .ok (.aload_n 0, 1) := by decide +kernel
theorem d_S_sumUp_32 : decode c_S_sumUp 32 = .ok (.getfield 17, 3) := by decide +kernel
theorem d_S_sumUp_35 : decode c_S_sumUp 35 = .ok (.iload_n 1, 1) := by decide +kernel
theorem d_S_sumUp_36 : decode c_S_sumUp 36 = .ok (.aaload, 1) := by decide +kernel
theorem d_S_sumUp_37 : decode c_S_sumUp 37 = .ok (.iload_n 2, 1) := by decide +kernel
theorem d_S_sumUp_38 : decode c_S_sumUp 38 = .ok (.iaload, 1) := by decide +kernel
theorem d_S_sumUp_39 : decode c_S_sumUp 39 = .ok (.iadd, 1) := by decide +kernel
theorem d_S_sumUp_40 : decode c_S_sumUp 40 = .ok (.iastore, 1) := by decide +kernel
theorem d_S_sumUp_41 : decode c_S_sumUp 41 = .ok (.aload_n 0, 1) := by decide +kernel
theorem d_S_sumUp_42 : decode c_S_sumUp 42 = .ok (.getfield 17, 3) := by decide +kernel
theorem d_S_sumUp_45 : decode c_S_sumUp 45 = .ok (.iload_n 1, 1) := by decide +kernel
theorem d_S_sumUp_46 : decode c_S_sumUp 46 = .ok (.aaload, 1) := by decide +kernel
theorem d_S_sumUp_47 : decode c_S_sumUp 47 = .ok (.iload_n 2, 1) := by decide +kernel
theorem d_S_sumUp_48 : decode c_S_sumUp 48 = .ok (.iaload, 1) := by decide +kernel
theorem d_S_sumUp_49 : decode c_S_sumUp 49 = .ok (.ifCond .le 16, 3) := by decide +kernel
theorem d_S_sumUp_52 : decode c_S_sumUp 52 = .ok (.aload_n 0, 1) := by decide +kernel
theorem d_S_sumUp_53 : decode c_S_sumUp 53 = .ok (.getfield 24, 3) := by decide +kernel
theorem d_S_sumUp_56 : decode c_S_sumUp 56 = .ok (.iload_n 1, 1) := by decide +kernel
theorem d_S_sumUp_57 : decode c_S_sumUp 57 = .ok (.dup2, 1) := by decide +kernel
theorem d_S_sumUp_58 : decode c_S_sumUp 58 = .ok (.iaload, 1) := by decide +kernel
theorem d_S_sumUp_59 : decode c_S_sumUp 59 = .ok (.iload_n 2, 1) := by decide +kernel
theorem d_S_sumUp_60 : decode c_S_sumUp 60 = .ok (.invokestatic 65, 3) := by decide +kernel
theorem d_S_sumUp_63 : decode c_S_sumUp 63 = .ok (.ior, 1) := by decide +kernel
theorem d_S_sumUp_64 : decode c_S_sumUp 64 = .ok (.iastore, 1) := by decide +kernel
theorem d_S_sumUp_65 : decode c_S_sumUp 65 = .ok (.iinc 2 1, 3) := by decide +kernel
theorem d_S_sumUp_68 : decode c_S_sumUp 68 = .ok (.goto (-52), 3) := by decide +kernel
theorem d_S_sumUp_71 : decode c_S_sumUp 71 = .ok (.return_, 1) := by decide +kernel
theorem d_C_renew_0 : decode c_C_renew 0 = .ok (.aload_n 0, 1) := by decide +kernel
theorem d_C_renew_1 : decode c_C_renew 1 = .ok (.aload_n 1, 1) := by decide +kernel
theorem d_C_renew_2 : decode c_C_renew 2 = .ok (.getfield 31, 3) := by decide +kernel
theorem d_C_renew_5 : decode c_C_renew 5 = .ok (.putfield 25, 3) := by decide +kernel
theorem d_C_renew_8 : decode c_C_renew 8 = .ok (.aload_n 0, 1) := by decide +kernel
theorem d_C_renew_9 : decode c_C_renew 9 = .ok (.iconst 0, 1) := by decide +kernel
theorem d_C_renew_10 : decode c_C_renew 10 = .ok (.putfield 9, 3) := by decide +kernel
theorem d_C_renew_13 : decode c_C_renew 13 = .ok (.iconst 0, 1) := by decide +kernel
theorem d_C_renew_14 : decode c_C_renew 14 = .ok (.istore_n 2, 1) := by decide +kernel
theorem d_C_renew_15 : decode c_C_renew 15 = .ok (.iload_n 2, 1) := by decide +kernel
theorem d_C_renew_16 : decode c_C_renew 16 = .ok (.aload_n 0, 1) := by decide +kernel
theorem d_C_renew_17 : decode c_C_renew 17 = .ok (.getfield 25, 3) := by decide +kernel
theorem d_C_renew_20 : decode c_C_renew 20 = .ok (.if_icmp .ge 29, 3) := by decide +kernel
theorem d_C_renew_23 : decode c_C_renew 23 = .ok (.aload_n 0, 1) := by decide +kernel
theorem d_C_renew_24 : decode c_C_renew 24 = .ok (.getfield 28, 3) := by decide +kernel
theorem d_C_renew_27 : decode c_C_renew 27 = .ok (.iload_n 2, 1) := by decide +kernel
theorem d_C_renew_28 : decode c_C_renew 28 = .ok (.aload_n 1, 1) := by decide +kernel
theorem d_C_renew_29 : decode c_C_renew 29 = .ok (.iload_n 2, 1) := by decide +kernel
theorem d_C_renew_30 : decode c_C_renew 30 = .ok (.iconst 0, 1) := by decide +kernel
theorem d_C_renew_31 : decode c_C_renew 31 = .ok (.invokevirtual 34, 3) := by decide +kernel
theorem d_C_renew_34 : decode c_C_renew 34 = .ok (.iastore, 1) := by decide +kernel
theorem d_C_renew_35 : decode c_C_renew 35 = .ok (.aload_n 0, 1) := by decide +kernel
theorem d_C_renew_36 : decode c_C_renew 36 = .ok (.getfield 22, 3) := by decide +kernel
theorem d_C_renew_39 : decode c_C_renew 39 = .ok (.iload_n 2, 1) := by decide +kernel
theorem d_C_renew_40 : decode c_C_renew 40 = .ok (.bipush (-3), 2) := by decide +kernel
theorem d_C_renew_42 : decode c_C_renew 42 = .ok (.iastore, 1) := by decide +kernel
theorem d_C_renew_43 : decode c_C_renew 43 = .ok (.iinc 2 1, 3) := by decide +kernel
theorem d_C_renew_46 : decode c_C_renew 46 = .ok (.goto (-31), 3) := by decide +kernel
theorem d_C_renew_49 : decode c_C_renew 49 = .ok (.iconst 0, 1) := by decide +kernel
theorem d_C_renew_50 : decode c_C_renew 50 = .ok (.istore_n 2, 1) := by decide +kernel
theorem d_C_renew_51 : decode c_C_renew 51 = .ok (.iload_n 2, 1) := by decide +kernel
theorem d_C_renew_52 : decode c_C_renew 52 = .ok (.aload_n 0, 1) := by decide +kernel
theorem d_C_renew_53 : decode c_C_renew 53 = .ok (.getfield 25, 3) := by decide +kernel
theorem d_C_renew_56 : decode c_C_renew 56 = .ok (.if_icmp .ge 33, 3) := by decide +kernel
theorem d_C_renew_59 : decode c_C_renew 59 = .ok (.aload_n 0, 1) := by decide +kernel
theorem d_C_renew_60 : decode c_C_renew 60 = .ok (.getfield 22, 3) := by decide +kernel
theorem d_C_renew_63 : decode c_C_renew 63 = .ok (.iload_n 2, 1) := by decide +kernel
theorem d_C_renew_64 : decode c_C_renew 64 = .ok (.iaload, 1) := by decide +kernel
theorem d_C_renew_65 : decode c_C_renew 65 = .ok (.bipush (-3), 2) := by decide +kernel
theorem d_C_renew_67 : decode c_C_renew 67 = .ok (.if_icmp .ne 16, 3) := by decide +kernel
theorem d_C_renew_70 : decode c_C_renew 70 = .ok (.aload_n 0, 1) := by decide +kernel
theorem d_C_renew_71 : decode c_C_renew 71 = .ok (.iload_n 2, 1) := by decide +kernel
theorem d_C_renew_72 : decode c_C_renew 72 = .ok (.invokevirtual 38, 3) := by decide +kernel
theorem d_C_renew_75 : decode c_C_renew 75 = .ok (.ifCond .eq 8, 3) := by decide +kernel
theorem d_C_renew_78 : decode c_C_renew 78 = .ok (.aload_n 0, 1) := by decide +kernel
theorem d_C_renew_79 : decode c_C_renew 79 = .ok (.iload_n 2, 1) := by decide +kernel
theorem d_C_renew_80 : decode c_C_renew 80 = .ok (.invokevirtual 42, 3) := by decide +kernel
theorem d_C_renew_83 : decode c_C_renew 83 = .ok (.iinc 2 1, 3) := by decide +kernel
theorem d_C_renew_86 : decode c_C_renew 86 = .ok (.goto (-35), 3) := by decide +kernel
theorem d_C_renew_89 : decode c_C_renew 89 = .ok (.return_, 1) := by decide +kernel
theorem d_S_nodesBehind_0 : decode c_S_nodesBehind 0 = .ok (.iload_n 1, 1) := by decide +kernel
theorem d_S_nodesBehind_1 : decode c_S_nodesBehind 1 = .ok (.invokestatic 65, 3) := by decide +kernel
theorem d_S_nodesBehind_4 : decode c_S_nodesBehind 4 = .ok (.istore_n 3, 1) := by decide +kernel
theorem d_S_nodesBehind_5 : decode c_S_nodesBehind 5 = .ok (.iconst 0, 1) := by decide +kernel
theorem d_S_nodesBehind_6 : decode c_S_nodesBehind 6 = .ok (.istore 4, 2) := by decide +kernel
theorem d_S_nodesBehind_8 : decode c_S_nodesBehind 8 = .ok (.iload 4, 2) := by decide +kernel
theorem d_S_nodesBehind_10 : decode c_S_nodesBehind 10 = .ok (.aload_n 0, 1) := by decide +kernel
theorem d_S_nodesBehind_11 : decode c_S_nodesBehind 11 = .ok (.getfield 9, 3) := by decide +kernel
theorem d_S_nodesBehind_14 : decode c_S_nodesBehind 14 = .ok (.if_icmp .ge 21, 3) := by decide +kernel
theorem d_S_nodesBehind_17 : decode c_S_nodesBehind 17 = .ok (.iload_n 3, 1) := by decide +kernel
theorem d_S_nodesBehind_18 : decode c_S_nodesBehind 18 = .ok (.aload_n 0, 1) := by decide +kernel
theorem d_S_nodesBehind_19 : decode c_S_nodesBehind 19 = .ok (.iload_n 3, 1) := by decide +kernel
theorem d_S_nodesBehind_20 : decode c_S_nodesBehind 20 = .ok (.invokevirtual 72, 3) := by decide +kernel
theorem d_S_nodesBehind_23 : decode c_S_nodesBehind 23 = .ok (.iload_n 2, 1) := by decide +kernel
theorem d_S_nodesBehind_24 : decode c_S_nodesBehind 24 = .ok (.iconst (-1), 1) := by decide +kernel
theorem d_S_nodesBehind_25 : decode c_S_nodesBehind 25 = .ok (.ixor, 1) := by decide +kernel
theorem d_S_nodesBehind_26 : decode c_S_nodesBehind 26 = .ok (.iand, 1) := by decide +kernel
theorem d_S_nodesBehind_27 : decode c_S_nodesBehind 27 = .ok (.ior, 1) := by decide +kernel
theorem d_S_nodesBehind_28 : decode c_S_nodesBehind 28 = .ok (.istore_n 3, 1) := by decide +kernel
theorem d_S_nodesBehind_29 : decode c_S_nodesBehind 29 = .ok (.iinc 4 1, 3) := by decide +kernel
theorem d_S_nodesBehind_32 : decode c_S_nodesBehind 32 = .ok (.goto (-24), 3) := by decide +kernel
theorem d_S_nodesBehind_35 : decode c_S_nodesBehind 35 = .ok (.iload_n 3, 1) := by decide +kernel
theorem d_S_nodesBehind_36 : decode c_S_nodesBehind 36 = .ok (.ireturn, 1) := by decide +kernel
theorem d_S_nextOf_0 : decode c_S_nextOf 0 = .ok (.iconst 0, 1) := by decide +kernel
theorem d_S_nextOf_1 : decode c_S_nextOf 1 = .ok (.istore_n 2, 1) := by decide +kernel
theorem d_S_nextOf_2 : decode c_S_nextOf 2 = .ok (.iconst 0, 1) := by decide +kernel
theorem d_S_nextOf_3 : decode c_S_nextOf 3 = .ok (.istore_n 3, 1) := by decide +kernel
theorem d_S_nextOf_4 : decode c_S_nextOf 4 = .ok (.iload_n 3, 1) := by decide +kernel
theorem d_S_nextOf_5 : decode c_S_nextOf 5 = .ok (.aload_n 0, 1) := by decide +kernel
theorem d_S_nextOf_6 : decode c_S_nextOf 6 = .ok (.getfield 9, 3) := by decide +kernel
theorem d_S_nextOf_9 : decode c_S_nextOf 9 = .ok (.if_icmp .ge 26, 3) := by decide +kernel
theorem d_S_nextOf_12 : decode c_S_nextOf 12 = .ok (.iload_n 1, 1) := by decide +kernel
theorem d_S_nextOf_13 : decode c_S_nextOf 13 = .ok (.iload_n 3, 1) := by decide +kernel
theorem d_S_nextOf_14 : decode c_S_nextOf 14 = .ok (.invokestatic 68, 3) := by decide +kernel
theorem d_S_nextOf_17 : decode c_S_nextOf 17 = .ok (.ifCond .eq 12, 3) := by decide +kernel
theorem d_S_nextOf_20 : decode c_S_nextOf 20 = .ok (.iload_n 2, 1) := by decide +kernel
theorem d_S_nextOf_21 : decode c_S_nextOf 21 = .ok (.aload_n 0, 1) := by decide +kernel
theorem d_S_nextOf_22 : decode c_S_nextOf 22 = .ok (.getfield 24, 3) := by decide +kernel
theorem d_S_nextOf_25 : decode c_S_nextOf 25 = .ok (.iload_n 3, 1) := by decide +kernel
theorem d_S_nextOf_26 : decode c_S_nextOf 26 = .ok (.iaload, 1) := by decide +kernel
theorem d_S_nextOf_27 : decode c_S_nextOf 27 = .ok (.ior, 1) := by decide +kernel
theorem d_S_nextOf_28 : decode c_S_nextOf 28 = .ok (.istore_n 2, 1) := by decide +kernel
theorem d_S_nextOf_29 : decode c_S_nextOf 29 = .ok (.iinc 3 1, 3) := by decide +kernel
theorem d_S_nextOf_32 : decode c_S_nextOf 32 = .ok (.goto (-28), 3) := by decide +kernel
theorem d_S_nextOf_35 : decode c_S_nextOf 35 = .ok (.iload_n 2, 1) := by decide +kernel
theorem d_S_nextOf_36 : decode c_S_nextOf 36 = .ok (.ireturn, 1) := by decide +kernel
theorem d_C_isClosedFrom_0 : decode c_C_isClosedFrom 0 = .ok (.aload_n 0, 1) := by decide +kernel
theorem d_C_isClosedFrom_1 : decode c_C_isClosedFrom 1 = .ok (.getfield 28, 3) := by decide +kernel
theorem d_C_isClosedFrom_4 : decode c_C_isClosedFrom 4 = .ok (.iload_n 1, 1) := by decide +kernel
theorem d_C_isClosedFrom_5 : decode c_C_isClosedFrom 5 = .ok (.iaload, 1) := by decide +kernel
theorem d_C_isClosedFrom_6 : decode c_C_isClosedFrom 6 = .ok (.aload_n 0, 1) := by decide +kernel
theorem d_C_isClosedFrom_7 : decode c_C_isClosedFrom 7 = .ok (.iload_n 1, 1) := by decide +kernel
theorem d_C_isClosedFrom_8 : decode c_C_isClosedFrom 8 = .ok (.invokestatic 46, 3) := by decide +kernel
theorem d_C_isClosedFrom_11 : decode c_C_isClosedFrom 11 = .ok (.invokevirtual 50, 3) := by decide +kernel
theorem d_C_isClosedFrom_14 : decode c_C_isClosedFrom 14 = .ok (.iconst (-1), 1) := by decide +kernel
theorem d_C_isClosedFrom_15 : decode c_C_isClosedFrom 15 = .ok (.ixor, 1) := by decide +kernel
theorem d_C_isClosedFrom_16 : decode c_C_isClosedFrom 16 = .ok (.iand, 1) := by decide +kernel
theorem d_C_isClosedFrom_17 : decode c_C_isClosedFrom 17 = .ok (.ifCond .ne 7, 3) := by decide +kernel
theorem d_C_isClosedFrom_20 : decode c_C_isClosedFrom 20 = .ok (.iconst 1, 1) := by decide +kernel
theorem d_C_isClosedFrom_21 : decode c_C_isClosedFrom 21 = .ok (.goto 4, 3) := by decide +kernel
theorem d_C_isClosedFrom_24 : decode c_C_isClosedFrom 24 = .ok (.iconst 0, 1) := by decide +kernel
theorem d_C_isClosedFrom_25 : decode c_C_isClosedFrom 25 = .ok (.ireturn, 1) := by decide +kernel
theorem d_C_leadingTo_0 : decode c_C_leadingTo 0 = .ok (.iconst 0, 1) := by decide +kernel
theorem d_C_leadingTo_1 : decode c_C_leadingTo 1 = .ok (.istore_n 2, 1) := by decide +kernel
theorem d_C_leadingTo_2 : decode c_C_leadingTo 2 = .ok (.iconst 0, 1) := by decide +kernel
theorem d_C_leadingTo_3 : decode c_C_leadingTo 3 = .ok (.istore_n 3, 1) := by decide +kernel
theorem d_C_leadingTo_4 : decode c_C_leadingTo 4 = .ok (.iload_n 3, 1) := by decide +kernel
theorem d_C_leadingTo_5 : decode c_C_leadingTo 5 = .ok (.aload_n 0, 1) := by decide +kernel
theorem d_C_leadingTo_6 : decode c_C_leadingTo 6 = .ok (.getfield 25, 3) := by decide +kernel
theorem d_C_leadingTo_9 : decode c_C_leadingTo 9 = .ok (.if_icmp .ge 27, 3) := by decide +kernel
theorem d_C_leadingTo_12 : decode c_C_leadingTo 12 = .ok (.aload_n 0, 1) := by decide +kernel
theorem d_C_leadingTo_13 : decode c_C_leadingTo 13 = .ok (.getfield 28, 3) := by decide +kernel
theorem d_C_leadingTo_16 : decode c_C_leadingTo 16 = .ok (.iload_n 3, 1) := by decide +kernel
theorem d_C_leadingTo_17 : decode c_C_leadingTo 17 = .ok (.iaload, 1) := by decide +kernel
theorem d_C_leadingTo_18 : decode c_C_leadingTo 18 = .ok (.iload_n 1, 1) := by decide +kernel
theorem d_C_leadingTo_19 : decode c_C_leadingTo 19 = .ok (.iand, 1) := by decide +kernel
theorem d_C_leadingTo_20 : decode c_C_leadingTo 20 = .ok (.ifCond .eq 10, 3) := by decide +kernel
theorem d_C_leadingTo_23 : decode c_C_leadingTo 23 = .ok (.iload_n 2, 1) := by decide +kernel
theorem d_C_leadingTo_24 : decode c_C_leadingTo 24 = .ok (.iload_n 3, 1) := by decide +kernel
theorem d_C_leadingTo_25 : decode c_C_leadingTo 25 = .ok (.invokestatic 46, 3) := by decide +kernel
theorem d_C_leadingTo_28 : decode c_C_leadingTo 28 = .ok (.ior, 1) := by decide +kernel
theorem d_C_leadingTo_29 : decode c_C_leadingTo 29 = .ok (.istore_n 2, 1) := by decide +kernel
theorem d_C_leadingTo_30 : decode c_C_leadingTo 30 = .ok (.iinc 3 1, 3) := by decide +kernel
theorem d_C_leadingTo_33 : decode c_C_leadingTo 33 = .ok (.goto (-29), 3) := by decide +kernel
theorem d_C_leadingTo_36 : decode c_C_leadingTo 36 = .ok (.iload_n 2, 1) := by decide +kernel
theorem d_C_leadingTo_37 : decode c_C_leadingTo 37 = .ok (.ireturn, 1) := by decide +kernel
theorem d_C_addSet_0 : decode c_C_addSet 0 = .ok (.aload_n 0, 1) := by decide +kernel
theorem d_C_addSet_1 : decode c_C_addSet 1 = .ok (.getfield 9, 3) := by decide +kernel
theorem d_C_addSet_4 : decode c_C_addSet 4 = .ok (.iconst 5, 1) := by decide +kernel
theorem d_C_addSet_5 : decode c_C_addSet 5 = .ok (.if_icmp .lt 4, 3) := by decide +kernel
theorem d_C_addSet_8 : decode c_C_addSet 8 = .ok (.return_, 1) := by decide +kernel
theorem d_C_addSet_9 : decode c_C_addSet 9 = .ok (.aload_n 0, 1) := by decide +kernel
theorem d_C_addSet_10 : decode c_C_addSet 10 = .ok (.getfield 15, 3) := by decide +kernel
theorem d_C_addSet_13 : decode c_C_addSet 13 = .ok (.aload_n 0, 1) := by decide +kernel
theorem d_C_addSet_14 : decode c_C_addSet 14 = .ok (.getfield 9, 3) := by decide +kernel
theorem d_C_addSet_17 : decode c_C_addSet 17 = .ok (.aload_n 0, 1) := by decide +kernel
theorem d_C_addSet_18 : decode c_C_addSet 18 = .ok (.getfield 28, 3) := by decide +kernel
theorem d_C_addSet_21 : decode c_C_addSet 21 = .ok (.iload_n 1, 1) := by decide +kernel
theorem d_C_addSet_22 : decode c_C_addSet 22 = .ok (.iaload, 1) := by decide +kernel
theorem d_C_addSet_23 : decode c_C_addSet 23 = .ok (.iastore, 1) := by decide +kernel
theorem d_C_addSet_24 : decode c_C_addSet 24 = .ok (.aload_n 0, 1) := by decide +kernel
theorem d_C_addSet_25 : decode c_C_addSet 25 = .ok (.getfield 19, 3) := by decide +kernel
theorem d_C_addSet_28 : decode c_C_addSet 28 = .ok (.aload_n 0, 1) := by decide +kernel
theorem d_C_addSet_29 : decode c_C_addSet 29 = .ok (.getfield 9, 3) := by decide +kernel
theorem d_C_addSet_32 : decode c_C_addSet 32 = .ok (.iload_n 1, 1) := by decide +kernel
theorem d_C_addSet_33 : decode c_C_addSet 33 = .ok (.iastore, 1) := by decide +kernel
theorem d_C_addSet_34 : decode c_C_addSet 34 = .ok (.iconst 0, 1) := by decide +kernel
theorem d_C_addSet_35 : decode c_C_addSet 35 = .ok (.istore_n 2, 1) := by decide +kernel
theorem d_C_addSet_36 : decode c_C_addSet 36 = .ok (.iload_n 2, 1) := by decide +kernel
theorem d_C_addSet_37 : decode c_C_addSet 37 = .ok (.aload_n 0, 1) := by decide +kernel
theorem d_C_addSet_38 : decode c_C_addSet 38 = .ok (.getfield 25, 3) := by decide +kernel
theorem d_C_addSet_41 : decode c_C_addSet 41 = .ok (.if_icmp .ge 32, 3) := by decide +kernel
theorem d_C_addSet_44 : decode c_C_addSet 44 = .ok (.aload_n 0, 1) := by decide +kernel
theorem d_C_addSet_45 : decode c_C_addSet 45 = .ok (.getfield 28, 3) := by decide +kernel
theorem d_C_addSet_48 : decode c_C_addSet 48 = .ok (.iload_n 1, 1) := by decide +kernel
theorem d_C_addSet_49 : decode c_C_addSet 49 = .ok (.iaload, 1) := by decide +kernel
theorem d_C_addSet_50 : decode c_C_addSet 50 = .ok (.iload_n 2, 1) := by decide +kernel
theorem d_C_addSet_51 : decode c_C_addSet 51 = .ok (.invokestatic 53, 3) := by decide +kernel
theorem d_C_addSet_54 : decode c_C_addSet 54 = .ok (.ifCond .eq 13, 3) := by decide +kernel
theorem d_C_addSet_57 : decode c_C_addSet 57 = .ok (.aload_n 0, 1) := by decide +kernel
theorem d_C_addSet_58 : decode c_C_addSet 58 = .ok (.getfield 22, 3) := by decide +kernel
theorem d_C_addSet_61 : decode c_C_addSet 61 = .ok (.iload_n 2, 1) := by decide +kernel
theorem d_C_addSet_62 : decode c_C_addSet 62 = .ok (.aload_n 0, 1) := by decide +kernel
theorem d_C_addSet_63 : decode c_C_addSet 63 = .ok (.getfield 9, 3) := by decide +kernel
theorem d_C_addSet_66 : decode c_C_addSet 66 = .ok (.iastore, 1) := by decide +kernel
theorem d_C_addSet_67 : decode c_C_addSet 67 = .ok (.iinc 2 1, 3) := by decide +kernel
theorem d_C_addSet_70 : decode c_C_addSet 70 = .ok (.goto (-34), 3) := by decide +kernel
theorem d_C_addSet_73 : decode c_C_addSet 73 = .ok (.aload_n 0, 1) := by decide +kernel
theorem d_C_addSet_74 : decode c_C_addSet 74 = .ok (.dup, 1) := by decide +kernel
theorem d_C_addSet_75 : decode c_C_addSet 75 = .ok (.getfield 9, 3) := by decide +kernel
theorem d_C_addSet_78 : decode c_C_addSet 78 = .ok (.iconst 1, 1) := by decide +kernel
theorem d_C_addSet_79 : decode c_C_addSet 79 = .ok (.iadd, 1) := by decide +kernel
theorem d_C_addSet_80 : decode c_C_addSet 80 = .ok (.putfield 9, 3) := by decide +kernel
theorem d_C_addSet_83 : decode c_C_addSet 83 = .ok (.return_, 1) := by decide +kernel
theorem d_S_periodAt_0 : decode c_S_periodAt 0 = .ok (.iconst 0, 1) := by decide +kernel
theorem d_S_periodAt_1 : decode c_S_periodAt 1 = .ok (.istore_n 2, 1) := by decide +kernel
theorem d_S_periodAt_2 : decode c_S_periodAt 2 = .ok (.iload_n 1, 1) := by decide +kernel
theorem d_S_periodAt_3 : decode c_S_periodAt 3 = .ok (.invokestatic 65, 3) := by decide +kernel
theorem d_S_periodAt_6 : decode c_S_periodAt 6 = .ok (.istore_n 3, 1) := by decide +kernel
theorem d_S_periodAt_7 : decode c_S_periodAt 7 = .ok (.iconst 1, 1) := by decide +kernel
theorem d_S_periodAt_8 : decode c_S_periodAt 8 = .ok (.istore 4, 2) := by decide +kernel
theorem d_S_periodAt_10 : decode c_S_periodAt 10 = .ok (.iload 4, 2) := by decide +kernel
theorem d_S_periodAt_12 : decode c_S_periodAt 12 = .ok (.bipush 15, 2) := by decide +kernel
theorem d_S_periodAt_14 : decode c_S_periodAt 14 = .ok (.if_icmp .gt 33, 3) := by decide +kernel
theorem d_S_periodAt_17 : decode c_S_periodAt 17 = .ok (.aload_n 0, 1) := by decide +kernel
theorem d_S_periodAt_18 : decode c_S_periodAt 18 = .ok (.iload_n 3, 1) := by decide +kernel
theorem d_S_periodAt_19 : decode c_S_periodAt 19 = .ok (.invokevirtual 72, 3) := by decide +kernel
theorem d_S_periodAt_22 : decode c_S_periodAt 22 = .ok (.istore_n 3, 1) := by decide +kernel
theorem d_S_periodAt_23 : decode c_S_periodAt 23 = .ok (.iload_n 3, 1) := by decide +kernel
theorem d_S_periodAt_24 : decode c_S_periodAt 24 = .ok (.iload_n 1, 1) := by decide +kernel
theorem d_S_periodAt_25 : decode c_S_periodAt 25 = .ok (.invokestatic 68, 3) := by decide +kernel
theorem d_S_periodAt_28 : decode c_S_periodAt 28 = .ok (.ifCond .eq 13, 3) := by decide +kernel
theorem d_S_periodAt_31 : decode c_S_periodAt 31 = .ok (.iload_n 2, 1) := by decide +kernel
theorem d_S_periodAt_32 : decode c_S_periodAt 32 = .ok (.i2l, 1) := by decide +kernel
theorem d_S_periodAt_33 : decode c_S_periodAt 33 = .ok (.iload 4, 2) := by decide +kernel
theorem d_S_periodAt_35 : decode c_S_periodAt 35 = .ok (.i2l, 1) := by decide +kernel
theorem d_S_periodAt_36 : decode c_S_periodAt 36 = .ok (.invokestatic 61, 3) := by decide +kernel
theorem d_S_periodAt_39 : decode c_S_periodAt 39 = .ok (.l2i, 1) := by decide +kernel
theorem d_S_periodAt_40 : decode c_S_periodAt 40 = .ok (.istore_n 2, 1) := by decide +kernel
theorem d_S_periodAt_41 : decode c_S_periodAt 41 = .ok (.iinc 4 1, 3) := by decide +kernel
theorem d_S_periodAt_44 : decode c_S_periodAt 44 = .ok (.goto (-34), 3) := by decide +kernel
theorem d_S_periodAt_47 : decode c_S_periodAt 47 = .ok (.iload_n 2, 1) := by decide +kernel
theorem d_S_periodAt_48 : decode c_S_periodAt 48 = .ok (.ireturn, 1) := by decide +kernel
theorem d_E_fill_0 : decode c_E_fill 0 = .ok (.aload_n 0, 1) := by decide +kernel
theorem d_E_fill_1 : decode c_E_fill 1 = .ok (.aload_n 1, 1) := by decide +kernel
theorem d_E_fill_2 : decode c_E_fill 2 = .ok (.getfield 20, 3) := by decide +kernel
theorem d_E_fill_5 : decode c_E_fill 5 = .ok (.putfield 9, 3) := by decide +kernel
theorem d_E_fill_8 : decode c_E_fill 8 = .ok (.iconst 0, 1) := by decide +kernel
theorem d_E_fill_9 : decode c_E_fill 9 = .ok (.istore_n 3, 1) := by decide +kernel
theorem d_E_fill_10 : decode c_E_fill 10 = .ok (.iload_n 3, 1) := by decide +kernel
theorem d_E_fill_11 : decode c_E_fill 11 = .ok (.aload_n 0, 1) := by decide +kernel
theorem d_E_fill_12 : decode c_E_fill 12 = .ok (.getfield 9, 3) := by decide +kernel
theorem d_E_fill_15 : decode c_E_fill 15 = .ok (.if_icmp .ge 114, 3) := by decide +kernel
theorem d_E_fill_18 : decode c_E_fill 18 = .ok (.iconst 0, 1) := by decide +kernel
theorem d_E_fill_19 : decode c_E_fill 19 = .ok (.istore 4, 2) := by decide +kernel
theorem d_E_fill_21 : decode c_E_fill 21 = .ok (.iload 4, 2) := by decide +kernel
theorem d_E_fill_23 : decode c_E_fill 23 = .ok (.aload_n 0, 1) := by decide +kernel
theorem d_E_fill_24 : decode c_E_fill 24 = .ok (.getfield 9, 3) := by decide +kernel
theorem d_E_fill_27 : decode c_E_fill 27 = .ok (.if_icmp .ge 96, 3) := by decide +kernel
theorem d_E_fill_30 : decode c_E_fill 30 = .ok (.iload_n 2, 1) := by decide +kernel
theorem d_E_fill_31 : decode c_E_fill 31 = .ok (.iload_n 3, 1) := by decide +kernel
theorem d_E_fill_32 : decode c_E_fill 32 = .ok (.invokestatic 23, 3) := by decide +kernel
theorem d_E_fill_35 : decode c_E_fill 35 = .ok (.ifCond .eq 16, 3) := by decide +kernel
theorem d_E_fill_38 : decode c_E_fill 38 = .ok (.iload_n 2, 1) := by decide +kernel
theorem d_E_fill_39 : decode c_E_fill 39 = .ok (.iload 4, 2) := by decide +kernel
theorem d_E_fill_41 : decode c_E_fill 41 = .ok (.invokestatic 23, 3) := by decide +kernel
theorem d_E_fill_44 : decode c_E_fill 44 = .ok (.ifCond .eq 7, 3) := by decide +kernel
theorem d_E_fill_47 : decode c_E_fill 47 = .ok (.iconst 1, 1) := by decide +kernel
theorem d_E_fill_48 : decode c_E_fill 48 = .ok (.goto 4, 3) := by decide +kernel
theorem d_E_fill_51 : decode c_E_fill 51 = .ok (.iconst 0, 1) := by decide +kernel
theorem d_E_fill_52 : decode c_E_fill 52 = .ok (.istore 5, 2) := by decide +kernel
theorem d_E_fill_54 : decode c_E_fill 54 = .ok (.iload 5, 2) := by decide +kernel
theorem d_E_fill_56 : decode c_E_fill 56 = .ok (.ifCond .eq 13, 3) := by decide +kernel
theorem d_E_fill_59 : decode c_E_fill 59 = .ok (.aload_n 1, 1) := by decide +kernel
theorem d_E_fill_60 : decode c_E_fill 60 = .ok (.getfield 27, 3) := by decide +kernel
theorem d_E_fill_63 : decode c_E_fill 63 = .ok (.iload_n 3, 1) := by decide +kernel
theorem d_E_fill_64 : decode c_E_fill 64 = .ok (.iaload, 1) := by decide +kernel
theorem d_E_fill_65 : decode c_E_fill 65 = .ok (.i2l, 1) := by decide +kernel
theorem d_E_fill_66 : decode c_E_fill 66 = .ok (.goto 4, 3) := by decide +kernel
theorem d_E_fill_69 : decode c_E_fill 69 = .ok (.lconst 1, 1) := by decide +kernel
theorem d_E_fill_70 : decode c_E_fill 70 = .ok (.lstore 6, 2) := by decide +kernel
theorem d_E_fill_72 : decode c_E_fill 72 = .ok (.iload 5, 2) := by decide +kernel
theorem d_E_fill_74 : decode c_E_fill 74 = .ok (.ifCond .eq 16, 3) := by decide +kernel
theorem d_E_fill_77 : decode c_E_fill 77 = .ok (.aload_n 1, 1) := by decide +kernel
theorem d_E_fill_78 : decode c_E_fill 78 = .ok (.getfield 31, 3) := by decide +kernel
theorem d_E_fill_81 : decode c_E_fill 81 = .ok (.iload_n 3, 1) := by decide +kernel
theorem d_E_fill_82 : decode c_E_fill 82 = .ok (.aaload, 1) := by decide +kernel
theorem d_E_fill_83 : decode c_E_fill 83 = .ok (.iload 4, 2) := by decide +kernel
theorem d_E_fill_85 : decode c_E_fill 85 = .ok (.iaload, 1) := by decide +kernel
theorem d_E_fill_86 : decode c_E_fill 86 = .ok (.i2l, 1) := by decide +kernel
theorem d_E_fill_87 : decode c_E_fill 87 = .ok (.goto 4, 3) := by decide +kernel
theorem d_E_fill_90 : decode c_E_fill 90 = .ok (.lconst 0, 1) := by decide +kernel
theorem d_E_fill_91 : decode c_E_fill 91 = .ok (.lstore 8, 2) := by decide +kernel
theorem d_E_fill_93 : decode c_E_fill 93 = .ok (.aload_n 0, 1) := by decide +kernel
theorem d_E_fill_94 : decode c_E_fill 94 = .ok (.getfield 17, 3) := by decide +kernel
theorem d_E_fill_97 : decode c_E_fill 97 = .ok (.iload_n 3, 1) := by decide +kernel
theorem d_E_fill_98 : decode c_E_fill 98 = .ok (.aaload, 1) := by decide +kernel
theorem d_E_fill_99 : decode c_E_fill 99 = .ok (.iload 4, 2) := by decide +kernel
theorem d_E_fill_101 : decode c_E_fill 101 = .ok (.iload_n 3, 1) := by decide +kernel
theorem d_E_fill_102 : decode c_E_fill 102 = .ok (.iload 4, 2) := by decide +kernel
theorem d_E_fill_104 : decode c_E_fill 104 = .ok (.if_icmp .ne 8, 3) := by decide +kernel
theorem d_E_fill_107 : decode c_E_fill 107 = .ok (.lload 6, 2) := by decide +kernel
theorem d_E_fill_109 : decode c_E_fill 109 = .ok (.goto 4, 3) := by decide +kernel
theorem d_E_fill_112 : decode c_E_fill 112 = .ok (.lconst 0, 1) := by decide +kernel
theorem d_E_fill_113 : decode c_E_fill 113 = .ok (.lload 8, 2) := by decide +kernel
theorem d_E_fill_115 : decode c_E_fill 115 = .ok (.lsub, 1) := by decide +kernel
theorem d_E_fill_116 : decode c_E_fill 116 = .ok (.lastore, 1) := by decide +kernel
theorem d_E_fill_117 : decode c_E_fill 117 = .ok (.iinc 4 1, 3) := by decide +kernel
theorem d_E_fill_120 : decode c_E_fill 120 = .ok (.goto (-99), 3) := by decide +kernel
theorem d_E_fill_123 : decode c_E_fill 123 = .ok (.iinc 3 1, 3) := by decide +kernel
theorem d_E_fill_126 : decode c_E_fill 126 = .ok (.goto (-116), 3) := by decide +kernel
theorem d_E_fill_129 : decode c_E_fill 129 = .ok (.return_, 1) := by decide +kernel
theorem d_E_determinant_0 : decode c_E_determinant 0 = .ok (.aload_n 0, 1) := by decide +kernel
theorem d_E_determinant_1 : decode c_E_determinant 1 = .ok (.getfield 17, 3) := by decide +kernel
theorem d_E_determinant_4 : decode c_E_determinant 4 = .ok (.aload_n 0, 1) := by decide +kernel
theorem d_E_determinant_5 : decode c_E_determinant 5 = .ok (.getfield 9, 3) := by decide +kernel
theorem d_E_determinant_8 : decode c_E_determinant 8 = .ok (.iconst 0, 1) := by decide +kernel
theorem d_E_determinant_9 : decode c_E_determinant 9 = .ok (.iconst 0, 1) := by decide +kernel
theorem d_E_determinant_10 : decode c_E_determinant 10 = .ok (.invokestatic 35, 3) := by decide +kernel
theorem d_E_determinant_13 : decode c_E_determinant 13 = .ok (.lreturn, 1) := by decide +kernel
theorem d_E_expand_0 : decode c_E_expand 0 = .ok (.iload_n 2, 1) := by decide +kernel
theorem d_E_expand_1 : decode c_E_expand 1 = .ok (.iload_n 1, 1) := by decide +kernel
theorem d_E_expand_2 : decode c_E_expand 2 = .ok (.if_icmp .lt 5, 3) := by decide +kernel
theorem d_E_expand_5 : decode c_E_expand 5 = .ok (.lconst 1, 1) := by decide +kernel
theorem d_E_expand_6 : decode c_E_expand 6 = .ok (.lreturn, 1) := by decide +kernel
theorem d_E_expand_7 : decode c_E_expand 7 = .ok (.lconst 0, 1) := by decide +kernel
theorem d_E_expand_8 : decode c_E_expand 8 = .ok (.lstore 4, 2) := by decide +kernel
theorem d_E_expand_10 : decode c_E_expand 10 = .ok (.lconst 1, 1) := by decide +kernel
theorem d_E_expand_11 : decode c_E_expand 11 = .ok (.lstore 6, 2) := by decide +kernel
theorem d_E_expand_13 : decode c_E_expand 13 = .ok (.iconst 0, 1) := by decide +kernel
theorem d_E_expand_14 : decode c_E_expand 14 = .ok (.istore 8, 2) := by decide +kernel
theorem d_E_expand_16 : decode c_E_expand 16 = .ok (.iload 8, 2) := by decide +kernel
theorem d_E_expand_18 : decode c_E_expand 18 = .ok (.iload_n 1, 1) := by decide +kernel
theorem d_E_expand_19 : decode c_E_expand 19 = .ok (.if_icmp .ge 67, 3) := by decide +kernel
theorem d_E_expand_22 : decode c_E_expand 22 = .ok (.iload_n 3, 1) := by decide +kernel
theorem d_E_expand_23 : decode c_E_expand 23 = .ok (.iload 8, 2) := by decide +kernel
theorem d_E_expand_25 : decode c_E_expand 25 = .ok (.invokestatic 23, 3) := by decide +kernel
theorem d_E_expand_28 : decode c_E_expand 28 = .ok (.ifCond .eq 6, 3) := by decide +kernel
theorem d_E_expand_31 : decode c_E_expand 31 = .ok (.goto 49, 3) := by decide +kernel
theorem d_E_expand_34 : decode c_E_expand 34 = .ok (.aload_n 0, 1) := by decide +kernel
theorem d_E_expand_35 : decode c_E_expand 35 = .ok (.iload_n 2, 1) := by decide +kernel
theorem d_E_expand_36 : decode c_E_expand 36 = .ok (.aaload, 1) := by decide +kernel
theorem d_E_expand_37 : decode c_E_expand 37 = .ok (.iload 8, 2) := by decide +kernel
theorem d_E_expand_39 : decode c_E_expand 39 = .ok (.laload, 1) := by decide +kernel
theorem d_E_expand_40 : decode c_E_expand 40 = .ok (.lstore 9, 2) := by decide +kernel
theorem d_E_expand_42 : decode c_E_expand 42 = .ok (.lload 9, 2) := by decide +kernel
theorem d_E_expand_44 : decode c_E_expand 44 = .ok (.lconst 0, 1) := by decide +kernel
theorem d_E_expand_45 : decode c_E_expand 45 = .ok (.lcmp, 1) := by decide +kernel
theorem d_E_expand_46 : decode c_E_expand 46 = .ok (.ifCond .eq 29, 3) := by decide +kernel
theorem d_E_expand_49 : decode c_E_expand 49 = .ok (.lload 4, 2) := by decide +kernel
theorem d_E_expand_51 : decode c_E_expand 51 = .ok (.lload 6, 2) := by decide +kernel
theorem d_E_expand_53 : decode c_E_expand 53 = .ok (.lload 9, 2) := by decide +kernel
theorem d_E_expand_55 : decode c_E_expand 55 = .ok (.lmul, 1) := by decide +kernel
theorem d_E_expand_56 : decode c_E_expand 56 = .ok (.aload_n 0, 1) := by decide +kernel
theorem d_E_expand_57 : decode c_E_expand 57 = .ok (.iload_n 1, 1) := by decide +kernel
theorem d_E_expand_58 : decode c_E_expand 58 = .ok (.iload_n 2, 1) := by decide +kernel
theorem d_E_expand_59 : decode c_E_expand 59 = .ok (.iconst 1, 1) := by decide +kernel
theorem d_E_expand_60 : decode c_E_expand 60 = .ok (.iadd, 1) := by decide +kernel
theorem d_E_expand_61 : decode c_E_expand 61 = .ok (.iload_n 3, 1) := by decide +kernel
theorem d_E_expand_62 : decode c_E_expand 62 = .ok (.iload 8, 2) := by decide +kernel
theorem d_E_expand_64 : decode c_E_expand 64 = .ok (.invokestatic 39, 3) := by decide +kernel
theorem d_E_expand_67 : decode c_E_expand 67 = .ok (.ior, 1) := by decide +kernel
theorem d_E_expand_68 : decode c_E_expand 68 = .ok (.invokestatic 35, 3) := by decide +kernel
theorem d_E_expand_71 : decode c_E_expand 71 = .ok (.lmul, 1) := by decide +kernel
theorem d_E_expand_72 : decode c_E_expand 72 = .ok (.ladd, 1) := by decide +kernel
theorem d_E_expand_73 : decode c_E_expand 73 = .ok (.lstore 4, 2) := by decide +kernel
theorem d_E_expand_75 : decode c_E_expand 75 = .ok (.lload 6, 2) := by decide +kernel
theorem d_E_expand_77 : decode c_E_expand 77 = .ok (.lneg, 1) := by decide +kernel
theorem d_E_expand_78 : decode c_E_expand 78 = .ok (.lstore 6, 2) := by decide +kernel
theorem d_E_expand_80 : decode c_E_expand 80 = .ok (.iinc 8 1, 3) := by decide +kernel
theorem d_E_expand_83 : decode c_E_expand 83 = .ok (.goto (-67), 3) := by decide +kernel
theorem d_E_expand_86 : decode c_E_expand 86 = .ok (.lload 4, 2) := by decide +kernel
theorem d_E_expand_88 : decode c_E_expand 88 = .ok (.lreturn, 1) := by decide +kernel
theorem d_E_putChances_0 : decode c_E_putChances 0 = .ok (.iconst 0, 1) := by decide +kernel
theorem d_E_putChances_1 : decode c_E_putChances 1 = .ok (.istore 5, 2) := by decide +kernel
theorem d_E_putChances_3 : decode c_E_putChances 3 = .ok (.iload 5, 2) := by decide +kernel
theorem d_E_putChances_5 : decode c_E_putChances 5 = .ok (.aload_n 0, 1) := by decide +kernel
theorem d_E_putChances_6 : decode c_E_putChances 6 = .ok (.getfield 9, 3) := by decide +kernel
theorem d_E_putChances_9 : decode c_E_putChances 9 = .ok (.if_icmp .ge 80, 3) := by decide +kernel
theorem d_E_putChances_12 : decode c_E_putChances 12 = .ok (.aload_n 0, 1) := by decide +kernel
theorem d_E_putChances_13 : decode c_E_putChances 13 = .ok (.getfield 17, 3) := by decide +kernel
theorem d_E_putChances_16 : decode c_E_putChances 16 = .ok (.iload 5, 2) := by decide +kernel
theorem d_E_putChances_18 : decode c_E_putChances 18 = .ok (.aaload, 1) := by decide +kernel
theorem d_E_putChances_19 : decode c_E_putChances 19 = .ok (.iload 4, 2) := by decide +kernel
theorem d_E_putChances_21 : decode c_E_putChances 21 = .ok (.lconst 0, 1) := by decide +kernel
theorem d_E_putChances_22 : decode c_E_putChances 22 = .ok (.lastore, 1) := by decide +kernel
theorem d_E_putChances_23 : decode c_E_putChances 23 = .ok (.iconst 0, 1) := by decide +kernel
theorem d_E_putChances_24 : decode c_E_putChances 24 = .ok (.istore 6, 2) := by decide +kernel
theorem d_E_putChances_26 : decode c_E_putChances 26 = .ok (.iload 6, 2) := by decide +kernel
theorem d_E_putChances_28 : decode c_E_putChances 28 = .ok (.aload_n 0, 1) := by decide +kernel
theorem d_E_putChances_29 : decode c_E_putChances 29 = .ok (.getfield 9, 3) := by decide +kernel
theorem d_E_putChances_32 : decode c_E_putChances 32 = .ok (.if_icmp .ge 51, 3) := by decide +kernel
theorem d_E_putChances_35 : decode c_E_putChances 35 = .ok (.iload_n 2, 1) := by decide +kernel
theorem d_E_putChances_36 : decode c_E_putChances 36 = .ok (.iload 5, 2) := by decide +kernel
theorem d_E_putChances_38 : decode c_E_putChances 38 = .ok (.invokestatic 23, 3) := by decide +kernel
theorem d_E_putChances_41 : decode c_E_putChances 41 = .ok (.ifCond .eq 36, 3) := by decide +kernel
theorem d_E_putChances_44 : decode c_E_putChances 44 = .ok (.iload_n 3, 1) := by decide +kernel
theorem d_E_putChances_45 : decode c_E_putChances 45 = .ok (.iload 6, 2) := by decide +kernel
theorem d_E_putChances_47 : decode c_E_putChances 47 = .ok (.invokestatic 23, 3) := by decide +kernel
theorem d_E_putChances_50 : decode c_E_putChances 50 = .ok (.ifCond .eq 27, 3) := by decide +kernel
theorem d_E_putChances_53 : decode c_E_putChances 53 = .ok (.aload_n 0, 1) := by decide +kernel
theorem d_E_putChances_54 : decode c_E_putChances 54 = .ok (.getfield 17, 3) := by decide +kernel
theorem d_E_putChances_57 : decode c_E_putChances 57 = .ok (.iload 5, 2) := by decide +kernel
theorem d_E_putChances_59 : decode c_E_putChances 59 = .ok (.aaload, 1) := by decide +kernel
theorem d_E_putChances_60 : decode c_E_putChances 60 = .ok (.iload 4, 2) := by decide +kernel
theorem d_E_putChances_62 : decode c_E_putChances 62 = .ok (.dup2, 1) := by decide +kernel
theorem d_E_putChances_63 : decode c_E_putChances 63 = .ok (.laload, 1) := by decide +kernel
theorem d_E_putChances_64 : decode c_E_putChances 64 = .ok (.aload_n 1, 1) := by decide +kernel
theorem d_E_putChances_65 : decode c_E_putChances 65 = .ok (.getfield 31, 3) := by decide +kernel
theorem d_E_putChances_68 : decode c_E_putChances 68 = .ok (.iload 5, 2) := by decide +kernel
theorem d_E_putChances_70 : decode c_E_putChances 70 = .ok (.aaload, 1) := by decide +kernel
theorem d_E_putChances_71 : decode c_E_putChances 71 = .ok (.iload 6, 2) := by decide +kernel
theorem d_E_putChances_73 : decode c_E_putChances 73 = .ok (.iaload, 1) := by decide +kernel
theorem d_E_putChances_74 : decode c_E_putChances 74 = .ok (.i2l, 1) := by decide +kernel
theorem d_E_putChances_75 : decode c_E_putChances 75 = .ok (.ladd, 1) := by decide +kernel
theorem d_E_putChances_76 : decode c_E_putChances 76 = .ok (.lastore, 1) := by decide +kernel
theorem d_E_putChances_77 : decode c_E_putChances 77 = .ok (.iinc 6 1, 3) := by decide +kernel
theorem d_E_putChances_80 : decode c_E_putChances 80 = .ok (.goto (-54), 3) := by decide +kernel
theorem d_E_putChances_83 : decode c_E_putChances 83 = .ok (.iinc 5 1, 3) := by decide +kernel
theorem d_E_putChances_86 : decode c_E_putChances 86 = .ok (.goto (-83), 3) := by decide +kernel
theorem d_E_putChances_89 : decode c_E_putChances 89 = .ok (.return_, 1) := by decide +kernel
theorem d_E_putStepCounts_0 : decode c_E_putStepCounts 0 = .ok (.iconst 0, 1) := by decide +kernel
theorem d_E_putStepCounts_1 : decode c_E_putStepCounts 1 = .ok (.istore 4, 2) := by decide +kernel
theorem d_E_putStepCounts_3 : decode c_E_putStepCounts 3 = .ok (.iload 4, 2) := by decide +kernel
theorem d_E_putStepCounts_5 : decode c_E_putStepCounts 5 = .ok (.aload_n 0, 1) := by decide +kernel
theorem d_E_putStepCounts_6 : decode c_E_putStepCounts 6 = .ok (.getfield 9, 3) := by decide +kernel
theorem d_E_putStepCounts_9 : decode c_E_putStepCounts 9 = .ok (.if_icmp .ge 39, 3) := by decide +kernel
theorem d_E_putStepCounts_12 : decode c_E_putStepCounts 12 = .ok (.aload_n 0, 1) := by decide +kernel
theorem d_E_putStepCounts_13 : decode c_E_putStepCounts 13 = .ok (.getfield 17, 3) := by decide +kernel
theorem d_E_putStepCounts_16 : decode c_E_putStepCounts 16 = .ok (.iload 4, 2) := by decide +kernel
theorem d_E_putStepCounts_18 : decode c_E_putStepCounts 18 = .ok (.aaload, 1) := by decide +kernel
theorem d_E_putStepCounts_19 : decode c_E_putStepCounts 19 = .ok (.iload_n 3, 1) := by decide +kernel
theorem d_E_putStepCounts_20 : decode c_E_putStepCounts 20 = .ok (.iload_n 2, 1) := by decide +kernel
theorem d_E_putStepCounts_21 : decode c_E_putStepCounts 21 = .ok (.iload 4, 2) := by decide +kernel
theorem d_E_putStepCounts_23 : decode c_E_putStepCounts 23 = .ok (.invokestatic 23, 3) := by decide +kernel
theorem d_E_putStepCounts_26 : decode c_E_putStepCounts 26 = .ok (.ifCond .eq 14, 3) := by decide +kernel
theorem d_E_putStepCounts_29 : decode c_E_putStepCounts 29 = .ok (.aload_n 1, 1) := by decide +kernel
theorem d_E_putStepCounts_30 : decode c_E_putStepCounts 30 = .ok (.getfield 27, 3) := by decide +kernel
theorem d_E_putStepCounts_33 : decode c_E_putStepCounts 33 = .ok (.iload 4, 2) := by decide +kernel
theorem d_E_putStepCounts_35 : decode c_E_putStepCounts 35 = .ok (.iaload, 1) := by decide +kernel
theorem d_E_putStepCounts_36 : decode c_E_putStepCounts 36 = .ok (.i2l, 1) := by decide +kernel
theorem d_E_putStepCounts_37 : decode c_E_putStepCounts 37 = .ok (.goto 4, 3) := by decide +kernel
theorem d_E_putStepCounts_40 : decode c_E_putStepCounts 40 = .ok (.lconst 0, 1) := by decide +kernel
theorem d_E_putStepCounts_41 : decode c_E_putStepCounts 41 = .ok (.lastore, 1) := by decide +kernel
theorem d_E_putStepCounts_42 : decode c_E_putStepCounts 42 = .ok (.iinc 4 1, 3) := by decide +kernel
theorem d_E_putStepCounts_45 : decode c_E_putStepCounts 45 = .ok (.goto (-42), 3) := by decide +kernel
theorem d_E_putStepCounts_48 : decode c_E_putStepCounts 48 = .ok (.return_, 1) := by decide +kernel
theorem d_S_commonTotal_0 : decode c_S_commonTotal 0 = .ok (.lconst 1, 1) := by decide +kernel
theorem d_S_commonTotal_1 : decode c_S_commonTotal 1 = .ok (.lstore_n 1, 1) := by decide +kernel
theorem d_S_commonTotal_2 : decode c_S_commonTotal 2 = .ok (.iconst 0, 1) := by decide +kernel
theorem d_S_commonTotal_3 : decode c_S_commonTotal 3 = .ok (.istore_n 3, 1) := by decide +kernel
theorem d_S_commonTotal_4 : decode c_S_commonTotal 4 = .ok (.iload_n 3, 1) := by decide +kernel
theorem d_S_commonTotal_5 : decode c_S_commonTotal 5 = .ok (.aload_n 0, 1) := by decide +kernel
theorem d_S_commonTotal_6 : decode c_S_commonTotal 6 = .ok (.getfield 9, 3) := by decide +kernel
theorem d_S_commonTotal_9 : decode c_S_commonTotal 9 = .ok (.if_icmp .ge 42, 3) := by decide +kernel
theorem d_S_commonTotal_12 : decode c_S_commonTotal 12 = .ok (.lload_n 1, 1) := by decide +kernel
theorem d_S_commonTotal_13 : decode c_S_commonTotal 13 = .ok (.aload_n 0, 1) := by decide +kernel
theorem d_S_commonTotal_14 : decode c_S_commonTotal 14 = .ok (.getfield 20, 3) := by decide +kernel
theorem d_S_commonTotal_17 : decode c_S_commonTotal 17 = .ok (.iload_n 3, 1) := by decide +kernel
theorem d_S_commonTotal_18 : decode c_S_commonTotal 18 = .ok (.iaload, 1) := by decide +kernel
theorem d_S_commonTotal_19 : decode c_S_commonTotal 19 = .ok (.i2l, 1) := by decide +kernel
theorem d_S_commonTotal_20 : decode c_S_commonTotal 20 = .ok (.invokestatic 61, 3) := by decide +kernel
theorem d_S_commonTotal_23 : decode c_S_commonTotal 23 = .ok (.lstore 4, 2) := by decide +kernel
theorem d_S_commonTotal_25 : decode c_S_commonTotal 25 = .ok (.lload 4, 2) := by decide +kernel
theorem d_S_commonTotal_27 : decode c_S_commonTotal 27 = .ok (.lconst 0, 1) := by decide +kernel
theorem d_S_commonTotal_28 : decode c_S_commonTotal 28 = .ok (.lcmp, 1) := by decide +kernel
theorem d_S_commonTotal_29 : decode c_S_commonTotal 29 = .ok (.ifCond .eq 16, 3) := by decide +kernel
theorem d_S_commonTotal_32 : decode c_S_commonTotal 32 = .ok (.lload_n 1, 1) := by decide +kernel
theorem d_S_commonTotal_33 : decode c_S_commonTotal 33 = .ok (.lload 4, 2) := by decide +kernel
theorem d_S_commonTotal_35 : decode c_S_commonTotal 35 = .ok (.ldiv, 1) := by decide +kernel
theorem d_S_commonTotal_36 : decode c_S_commonTotal 36 = .ok (.aload_n 0, 1) := by decide +kernel
theorem d_S_commonTotal_37 : decode c_S_commonTotal 37 = .ok (.getfield 20, 3) := by decide +kernel
theorem d_S_commonTotal_40 : decode c_S_commonTotal 40 = .ok (.iload_n 3, 1) := by decide +kernel
theorem d_S_commonTotal_41 : decode c_S_commonTotal 41 = .ok (.iaload, 1) := by decide +kernel
theorem d_S_commonTotal_42 : decode c_S_commonTotal 42 = .ok (.i2l, 1) := by decide +kernel
theorem d_S_commonTotal_43 : decode c_S_commonTotal 43 = .ok (.lmul, 1) := by decide +kernel
theorem d_S_commonTotal_44 : decode c_S_commonTotal 44 = .ok (.lstore_n 1, 1) := by decide +kernel
theorem d_S_commonTotal_45 : decode c_S_commonTotal 45 = .ok (.iinc 3 1, 3) := by decide +kernel
theorem d_S_commonTotal_48 : decode c_S_commonTotal 48 = .ok (.goto (-44), 3) := by decide +kernel
theorem d_S_commonTotal_51 : decode c_S_commonTotal 51 = .ok (.lload_n 1, 1) := by decide +kernel
theorem d_S_commonTotal_52 : decode c_S_commonTotal 52 = .ok (.lreturn, 1) := by decide +kernel
theorem d_P_fillBySteps_0 : decode c_P_fillBySteps 0 = .ok (.aload_n 0, 1) := by decide +kernel
theorem d_P_fillBySteps_1 : decode c_P_fillBySteps 1 = .ok (.aload_n 1, 1) := by decide +kernel
theorem d_P_fillBySteps_2 : decode c_P_fillBySteps 2 = .ok (.getfield 34, 3) := by decide +kernel
theorem d_P_fillBySteps_5 : decode c_P_fillBySteps 5 = .ok (.putfield 18, 3) := by decide +kernel
theorem d_P_fillBySteps_8 : decode c_P_fillBySteps 8 = .ok (.iconst 0, 1) := by decide +kernel
theorem d_P_fillBySteps_9 : decode c_P_fillBySteps 9 = .ok (.istore 4, 2) := by decide +kernel
theorem d_P_fillBySteps_11 : decode c_P_fillBySteps 11 = .ok (.iload 4, 2) := by decide +kernel
theorem d_P_fillBySteps_13 : decode c_P_fillBySteps 13 = .ok (.aload_n 0, 1) := by decide +kernel
theorem d_P_fillBySteps_14 : decode c_P_fillBySteps 14 = .ok (.getfield 18, 3) := by decide +kernel
theorem d_P_fillBySteps_17 : decode c_P_fillBySteps 17 = .ok (.if_icmp .ge 77, 3) := by decide +kernel
theorem d_P_fillBySteps_20 : decode c_P_fillBySteps 20 = .ok (.aload_n 1, 1) := by decide +kernel
theorem d_P_fillBySteps_21 : decode c_P_fillBySteps 21 = .ok (.getfield 37, 3) := by decide +kernel
theorem d_P_fillBySteps_24 : decode c_P_fillBySteps 24 = .ok (.iload 4, 2) := by decide +kernel
theorem d_P_fillBySteps_26 : decode c_P_fillBySteps 26 = .ok (.iaload, 1) := by decide +kernel
theorem d_P_fillBySteps_27 : decode c_P_fillBySteps 27 = .ok (.ifCond .le 16, 3) := by decide +kernel
theorem d_P_fillBySteps_30 : decode c_P_fillBySteps 30 = .ok (.lload_n 2, 1) := by decide +kernel
theorem d_P_fillBySteps_31 : decode c_P_fillBySteps 31 = .ok (.aload_n 1, 1) := by decide +kernel
theorem d_P_fillBySteps_32 : decode c_P_fillBySteps 32 = .ok (.getfield 37, 3) := by decide +kernel
theorem d_P_fillBySteps_35 : decode c_P_fillBySteps 35 = .ok (.iload 4, 2) := by decide +kernel
theorem d_P_fillBySteps_37 : decode c_P_fillBySteps 37 = .ok (.iaload, 1) := by decide +kernel
theorem d_P_fillBySteps_38 : decode c_P_fillBySteps 38 = .ok (.i2l, 1) := by decide +kernel
theorem d_P_fillBySteps_39 : decode c_P_fillBySteps 39 = .ok (.ldiv, 1) := by decide +kernel
theorem d_P_fillBySteps_40 : decode c_P_fillBySteps 40 = .ok (.goto 4, 3) := by decide +kernel
theorem d_P_fillBySteps_43 : decode c_P_fillBySteps 43 = .ok (.lconst 0, 1) := by decide +kernel
theorem d_P_fillBySteps_44 : decode c_P_fillBySteps 44 = .ok (.lstore 5, 2) := by decide +kernel
theorem d_P_fillBySteps_46 : decode c_P_fillBySteps 46 = .ok (.iconst 0, 1) := by decide +kernel
theorem d_P_fillBySteps_47 : decode c_P_fillBySteps 47 = .ok (.istore 7, 2) := by decide +kernel
theorem d_P_fillBySteps_49 : decode c_P_fillBySteps 49 = .ok (.iload 7, 2) := by decide +kernel
theorem d_P_fillBySteps_51 : decode c_P_fillBySteps 51 = .ok (.aload_n 0, 1) := by decide +kernel
theorem d_P_fillBySteps_52 : decode c_P_fillBySteps 52 = .ok (.getfield 18, 3) := by decide +kernel
theorem d_P_fillBySteps_55 : decode c_P_fillBySteps 55 = .ok (.if_icmp .ge 33, 3) := by decide +kernel
theorem d_P_fillBySteps_58 : decode c_P_fillBySteps 58 = .ok (.aload_n 0, 1) := by decide +kernel
theorem d_P_fillBySteps_59 : decode c_P_fillBySteps 59 = .ok (.getfield 24, 3) := by decide +kernel
theorem d_P_fillBySteps_62 : decode c_P_fillBySteps 62 = .ok (.iload 4, 2) := by decide +kernel
theorem d_P_fillBySteps_64 : decode c_P_fillBySteps 64 = .ok (.aaload, 1) := by decide +kernel
theorem d_P_fillBySteps_65 : decode c_P_fillBySteps 65 = .ok (.iload 7, 2) := by decide +kernel
theorem d_P_fillBySteps_67 : decode c_P_fillBySteps 67 = .ok (.lload 5, 2) := by decide +kernel
theorem d_P_fillBySteps_69 : decode c_P_fillBySteps 69 = .ok (.aload_n 1, 1) := by decide +kernel
theorem d_P_fillBySteps_70 : decode c_P_fillBySteps 70 = .ok (.getfield 41, 3) := by decide +kernel
theorem d_P_fillBySteps_73 : decode c_P_fillBySteps 73 = .ok (.iload 4, 2) := by decide +kernel
theorem d_P_fillBySteps_75 : decode c_P_fillBySteps 75 = .ok (.aaload, 1) := by decide +kernel
theorem d_P_fillBySteps_76 : decode c_P_fillBySteps 76 = .ok (.iload 7, 2) := by decide +kernel
theorem d_P_fillBySteps_78 : decode c_P_fillBySteps 78 = .ok (.iaload, 1) := by decide +kernel
theorem d_P_fillBySteps_79 : decode c_P_fillBySteps 79 = .ok (.i2l, 1) := by decide +kernel
theorem d_P_fillBySteps_80 : decode c_P_fillBySteps 80 = .ok (.lmul, 1) := by decide +kernel
theorem d_P_fillBySteps_81 : decode c_P_fillBySteps 81 = .ok (.lastore, 1) := by decide +kernel
theorem d_P_fillBySteps_82 : decode c_P_fillBySteps 82 = .ok (.iinc 7 1, 3) := by decide +kernel
theorem d_P_fillBySteps_85 : decode c_P_fillBySteps 85 = .ok (.goto (-36), 3) := by decide +kernel
theorem d_P_fillBySteps_88 : decode c_P_fillBySteps 88 = .ok (.iinc 4 1, 3) := by decide +kernel
theorem d_P_fillBySteps_91 : decode c_P_fillBySteps 91 = .ok (.goto (-80), 3) := by decide +kernel
theorem d_P_fillBySteps_94 : decode c_P_fillBySteps 94 = .ok (.return_, 1) := by decide +kernel
theorem d_P_run_0 : decode c_P_run 0 = .ok (.iconst 0, 1) := by decide +kernel
theorem d_P_run_1 : decode c_P_run 1 = .ok (.istore_n 3, 1) := by decide +kernel
theorem d_P_run_2 : decode c_P_run 2 = .ok (.iload_n 3, 1) := by decide +kernel
theorem d_P_run_3 : decode c_P_run 3 = .ok (.aload_n 0, 1) := by decide +kernel
theorem d_P_run_4 : decode c_P_run 4 = .ok (.getfield 18, 3) := by decide +kernel
theorem d_P_run_7 : decode c_P_run 7 = .ok (.if_icmp .ge 25, 3) := by decide +kernel
theorem d_P_run_10 : decode c_P_run 10 = .ok (.aload_n 0, 1) := by decide +kernel
theorem d_P_run_11 : decode c_P_run 11 = .ok (.getfield 9, 3) := by decide +kernel
theorem d_P_run_14 : decode c_P_run 14 = .ok (.iload_n 3, 1) := by decide +kernel
theorem d_P_run_15 : decode c_P_run 15 = .ok (.iload_n 3, 1) := by decide +kernel
theorem d_P_run_16 : decode c_P_run 16 = .ok (.iload_n 1, 1) := by decide +kernel
theorem d_P_run_17 : decode c_P_run 17 = .ok (.if_icmp .ne 7, 3) := by decide +kernel
theorem d_P_run_20 : decode c_P_run 20 = .ok (.lconst 1, 1) := by decide +kernel
theorem d_P_run_21 : decode c_P_run 21 = .ok (.goto 4, 3) := by decide +kernel
theorem d_P_run_24 : decode c_P_run 24 = .ok (.lconst 0, 1) := by decide +kernel
theorem d_P_run_25 : decode c_P_run 25 = .ok (.lastore, 1) := by decide +kernel
theorem d_P_run_26 : decode c_P_run 26 = .ok (.iinc 3 1, 3) := by decide +kernel
theorem d_P_run_29 : decode c_P_run 29 = .ok (.goto (-27), 3) := by decide +kernel
theorem d_P_run_32 : decode c_P_run 32 = .ok (.iconst 0, 1) := by decide +kernel
theorem d_P_run_33 : decode c_P_run 33 = .ok (.istore_n 3, 1) := by decide +kernel
theorem d_P_run_34 : decode c_P_run 34 = .ok (.iload_n 3, 1) := by decide +kernel
theorem d_P_run_35 : decode c_P_run 35 = .ok (.iload_n 2, 1) := by decide +kernel
theorem d_P_run_36 : decode c_P_run 36 = .ok (.if_icmp .ge 13, 3) := by decide +kernel
theorem d_P_run_39 : decode c_P_run 39 = .ok (.aload_n 0, 1) := by decide +kernel
theorem d_P_run_40 : decode c_P_run 40 = .ok (.invokevirtual 44, 3) := by decide +kernel
theorem d_P_run_43 : decode c_P_run 43 = .ok (.iinc 3 1, 3) := by decide +kernel
theorem d_P_run_46 : decode c_P_run 46 = .ok (.goto (-12), 3) := by decide +kernel
theorem d_P_run_49 : decode c_P_run 49 = .ok (.return_, 1) := by decide +kernel
theorem d_P_move_0 : decode c_P_move 0 = .ok (.iconst 0, 1) := by decide +kernel
theorem d_P_move_1 : decode c_P_move 1 = .ok (.istore_n 1, 1) := by decide +kernel
theorem d_P_move_2 : decode c_P_move 2 = .ok (.iload_n 1, 1) := by decide +kernel
theorem d_P_move_3 : decode c_P_move 3 = .ok (.aload_n 0, 1) := by decide +kernel
theorem d_P_move_4 : decode c_P_move 4 = .ok (.getfield 18, 3) := by decide +kernel
theorem d_P_move_7 : decode c_P_move 7 = .ok (.if_icmp .ge 56, 3) := by decide +kernel
theorem d_P_move_10 : decode c_P_move 10 = .ok (.aload_n 0, 1) := by decide +kernel
theorem d_P_move_11 : decode c_P_move 11 = .ok (.getfield 15, 3) := by decide +kernel
theorem d_P_move_14 : decode c_P_move 14 = .ok (.iload_n 1, 1) := by decide +kernel
theorem d_P_move_15 : decode c_P_move 15 = .ok (.lconst 0, 1) := by decide +kernel
theorem d_P_move_16 : decode c_P_move 16 = .ok (.lastore, 1) := by decide +kernel
theorem d_P_move_17 : decode c_P_move 17 = .ok (.iconst 0, 1) := by decide +kernel
theorem d_P_move_18 : decode c_P_move 18 = .ok (.istore_n 2, 1) := by decide +kernel
theorem d_P_move_19 : decode c_P_move 19 = .ok (.iload_n 2, 1) := by decide +kernel
theorem d_P_move_20 : decode c_P_move 20 = .ok (.aload_n 0, 1) := by decide +kernel
theorem d_P_move_21 : decode c_P_move 21 = .ok (.getfield 18, 3) := by decide +kernel
theorem d_P_move_24 : decode c_P_move 24 = .ok (.if_icmp .ge 33, 3) := by decide +kernel
theorem d_P_move_27 : decode c_P_move 27 = .ok (.aload_n 0, 1) := by decide +kernel
theorem d_P_move_28 : decode c_P_move 28 = .ok (.getfield 15, 3) := by decide +kernel
theorem d_P_move_31 : decode c_P_move 31 = .ok (.iload_n 1, 1) := by decide +kernel
theorem d_P_move_32 : decode c_P_move 32 = .ok (.dup2, 1) := by decide +kernel
theorem d_P_move_33 : decode c_P_move 33 = .ok (.laload, 1) := by decide +kernel
theorem d_P_move_34 : decode c_P_move 34 = .ok (.aload_n 0, 1) := by decide +kernel
theorem d_P_move_35 : decode c_P_move 35 = .ok (.getfield 9, 3) := by decide +kernel
theorem d_P_move_38 : decode c_P_move 38 = .ok (.iload_n 2, 1) := by decide +kernel
theorem d_P_move_39 : decode c_P_move 39 = .ok (.laload, 1) := by decide +kernel
theorem d_P_move_40 : decode c_P_move 40 = .ok (.aload_n 0, 1) := by decide +kernel
theorem d_P_move_41 : decode c_P_move 41 = .ok (.getfield 24, 3) := by decide +kernel
theorem d_P_move_44 : decode c_P_move 44 = .ok (.iload_n 2, 1) := by decide +kernel
theorem d_P_move_45 : decode c_P_move 45 = .ok (.aaload, 1) := by decide +kernel
theorem d_P_move_46 : decode c_P_move 46 = .ok (.iload_n 1, 1) := by decide +kernel
theorem d_P_move_47 : decode c_P_move 47 = .ok (.laload, 1) := by decide +kernel
theorem d_P_move_48 : decode c_P_move 48 = .ok (.lmul, 1) := by decide +kernel
theorem d_P_move_49 : decode c_P_move 49 = .ok (.ladd, 1) := by decide +kernel
theorem d_P_move_50 : decode c_P_move 50 = .ok (.lastore, 1) := by decide +kernel
theorem d_P_move_51 : decode c_P_move 51 = .ok (.iinc 2 1, 3) := by decide +kernel
theorem d_P_move_54 : decode c_P_move 54 = .ok (.goto (-35), 3) := by decide +kernel
theorem d_P_move_57 : decode c_P_move 57 = .ok (.iinc 1 1, 3) := by decide +kernel
theorem d_P_move_60 : decode c_P_move 60 = .ok (.goto (-58), 3) := by decide +kernel
theorem d_P_move_63 : decode c_P_move 63 = .ok (.aload_n 0, 1) := by decide +kernel
theorem d_P_move_64 : decode c_P_move 64 = .ok (.getfield 9, 3) := by decide +kernel
theorem d_P_move_67 : decode c_P_move 67 = .ok (.astore_n 1, 1) := by decide +kernel
theorem d_P_move_68 : decode c_P_move 68 = .ok (.aload_n 0, 1) := by decide +kernel
theorem d_P_move_69 : decode c_P_move 69 = .ok (.aload_n 0, 1) := by decide +kernel
theorem d_P_move_70 : decode c_P_move 70 = .ok (.getfield 15, 3) := by decide +kernel
theorem d_P_move_73 : decode c_P_move 73 = .ok (.putfield 9, 3) := by decide +kernel
theorem d_P_move_76 : decode c_P_move 76 = .ok (.aload_n 0, 1) := by decide +kernel
theorem d_P_move_77 : decode c_P_move 77 = .ok (.aload_n 1, 1) := by decide +kernel
theorem d_P_move_78 : decode c_P_move 78 = .ok (.putfield 15, 3) := by decide +kernel
theorem d_P_move_81 : decode c_P_move 81 = .ok (.return_, 1) := by decide +kernel
theorem d_P_numberAt_0 : decode c_P_numberAt 0 = .ok (.aload_n 0, 1) := by decide +kernel
theorem d_P_numberAt_1 : decode c_P_numberAt 1 = .ok (.getfield 9, 3) := by decide +kernel
theorem d_P_numberAt_4 : decode c_P_numberAt 4 = .ok (.iload_n 1, 1) := by decide +kernel
theorem d_P_numberAt_5 : decode c_P_numberAt 5 = .ok (.laload, 1) := by decide +kernel
theorem d_P_numberAt_6 : decode c_P_numberAt 6 = .ok (.lreturn, 1) := by decide +kernel
theorem d_P_fillByWeights_0 : decode c_P_fillByWeights 0 = .ok (.aload_n 0, 1) := by decide +kernel
theorem d_P_fillByWeights_1 : decode c_P_fillByWeights 1 = .ok (.aload_n 1, 1) := by decide +kernel
theorem d_P_fillByWeights_2 : decode c_P_fillByWeights 2 = .ok (.getfield 27, 3) := by decide +kernel
theorem d_P_fillByWeights_5 : decode c_P_fillByWeights 5 = .ok (.putfield 18, 3) := by decide +kernel
theorem d_P_fillByWeights_8 : decode c_P_fillByWeights 8 = .ok (.iconst 0, 1) := by decide +kernel
theorem d_P_fillByWeights_9 : decode c_P_fillByWeights 9 = .ok (.istore_n 2, 1) := by decide +kernel
theorem d_P_fillByWeights_10 : decode c_P_fillByWeights 10 = .ok (.iload_n 2, 1) := by decide +kernel
theorem d_P_fillByWeights_11 : decode c_P_fillByWeights 11 = .ok (.aload_n 0, 1) := by decide +kernel
theorem d_P_fillByWeights_12 : decode c_P_fillByWeights 12 = .ok (.getfield 18, 3) := by decide +kernel
theorem d_P_fillByWeights_15 : decode c_P_fillByWeights 15 = .ok (.if_icmp .ge 42, 3) := by decide +kernel
theorem d_P_fillByWeights_18 : decode c_P_fillByWeights 18 = .ok (.iconst 0, 1) := by decide +kernel
theorem d_P_fillByWeights_19 : decode c_P_fillByWeights 19 = .ok (.istore_n 3, 1) := by decide +kernel
theorem d_P_fillByWeights_20 : decode c_P_fillByWeights 20 = .ok (.iload_n 3, 1) := by decide +kernel
theorem d_P_fillByWeights_21 : decode c_P_fillByWeights 21 = .ok (.aload_n 0, 1) := by decide +kernel
theorem d_P_fillByWeights_22 : decode c_P_fillByWeights 22 = .ok (.getfield 18, 3) := by decide +kernel
theorem d_P_fillByWeights_25 : decode c_P_fillByWeights 25 = .ok (.if_icmp .ge 26, 3) := by decide +kernel
theorem d_P_fillByWeights_28 : decode c_P_fillByWeights 28 = .ok (.aload_n 0, 1) := by decide +kernel
theorem d_P_fillByWeights_29 : decode c_P_fillByWeights 29 = .ok (.getfield 24, 3) := by decide +kernel
theorem d_P_fillByWeights_32 : decode c_P_fillByWeights 32 = .ok (.iload_n 2, 1) := by decide +kernel
theorem d_P_fillByWeights_33 : decode c_P_fillByWeights 33 = .ok (.aaload, 1) := by decide +kernel
theorem d_P_fillByWeights_34 : decode c_P_fillByWeights 34 = .ok (.iload_n 3, 1) := by decide +kernel
theorem d_P_fillByWeights_35 : decode c_P_fillByWeights 35 = .ok (.aload_n 1, 1) := by decide +kernel
theorem d_P_fillByWeights_36 : decode c_P_fillByWeights 36 = .ok (.getfield 30, 3) := by decide +kernel
theorem d_P_fillByWeights_39 : decode c_P_fillByWeights 39 = .ok (.iload_n 2, 1) := by decide +kernel
theorem d_P_fillByWeights_40 : decode c_P_fillByWeights 40 = .ok (.aaload, 1) := by decide +kernel
theorem d_P_fillByWeights_41 : decode c_P_fillByWeights 41 = .ok (.iload_n 3, 1) := by decide +kernel
theorem d_P_fillByWeights_42 : decode c_P_fillByWeights 42 = .ok (.iaload, 1) := by decide +kernel
theorem d_P_fillByWeights_43 : decode c_P_fillByWeights 43 = .ok (.i2l, 1) := by decide +kernel
theorem d_P_fillByWeights_44 : decode c_P_fillByWeights 44 = .ok (.lastore, 1) := by decide +kernel
theorem d_P_fillByWeights_45 : decode c_P_fillByWeights 45 = .ok (.iinc 3 1, 3) := by decide +kernel
theorem d_P_fillByWeights_48 : decode c_P_fillByWeights 48 = .ok (.goto (-28), 3) := by decide +kernel
theorem d_P_fillByWeights_51 : decode c_P_fillByWeights 51 = .ok (.iinc 2 1, 3) := by decide +kernel
theorem d_P_fillByWeights_54 : decode c_P_fillByWeights 54 = .ok (.goto (-44), 3) := by decide +kernel
theorem d_P_fillByWeights_57 : decode c_P_fillByWeights 57 = .ok (.return_, 1) := by decide +kernel
theorem d_S_nextNode_0 : decode c_S_nextNode 0 = .ok (.aload_n 0, 1) := by decide +kernel
theorem d_S_nextNode_1 : decode c_S_nextNode 1 = .ok (.getfield 20, 3) := by decide +kernel
theorem d_S_nextNode_4 : decode c_S_nextNode 4 = .ok (.iload_n 1, 1) := by decide +kernel
theorem d_S_nextNode_5 : decode c_S_nextNode 5 = .ok (.iaload, 1) := by decide +kernel
theorem d_S_nextNode_6 : decode c_S_nextNode 6 = .ok (.ifCond .gt 5, 3) := by decide +kernel
theorem d_S_nextNode_9 : decode c_S_nextNode 9 = .ok (.iload_n 1, 1) := by decide +kernel
theorem d_S_nextNode_10 : decode c_S_nextNode 10 = .ok (.ireturn, 1) := by decide +kernel
theorem d_S_nextNode_11 : decode c_S_nextNode 11 = .ok (.iload_n 2, 1) := by decide +kernel
theorem d_S_nextNode_12 : decode c_S_nextNode 12 = .ok (.aload_n 0, 1) := by decide +kernel
theorem d_S_nextNode_13 : decode c_S_nextNode 13 = .ok (.getfield 20, 3) := by decide +kernel
theorem d_S_nextNode_16 : decode c_S_nextNode 16 = .ok (.iload_n 1, 1) := by decide +kernel
theorem d_S_nextNode_17 : decode c_S_nextNode 17 = .ok (.iaload, 1) := by decide +kernel
theorem d_S_nextNode_18 : decode c_S_nextNode 18 = .ok (.irem, 1) := by decide +kernel
theorem d_S_nextNode_19 : decode c_S_nextNode 19 = .ok (.istore_n 3, 1) := by decide +kernel
theorem d_S_nextNode_20 : decode c_S_nextNode 20 = .ok (.iconst 0, 1) := by decide +kernel
theorem d_S_nextNode_21 : decode c_S_nextNode 21 = .ok (.istore 4, 2) := by decide +kernel
theorem d_S_nextNode_23 : decode c_S_nextNode 23 = .ok (.iload 4, 2) := by decide +kernel
theorem d_S_nextNode_25 : decode c_S_nextNode 25 = .ok (.aload_n 0, 1) := by decide +kernel
theorem d_S_nextNode_26 : decode c_S_nextNode 26 = .ok (.getfield 9, 3) := by decide +kernel
theorem d_S_nextNode_29 : decode c_S_nextNode 29 = .ok (.if_icmp .ge 37, 3) := by decide +kernel
theorem d_S_nextNode_32 : decode c_S_nextNode 32 = .ok (.iload_n 3, 1) := by decide +kernel
theorem d_S_nextNode_33 : decode c_S_nextNode 33 = .ok (.aload_n 0, 1) := by decide +kernel
theorem d_S_nextNode_34 : decode c_S_nextNode 34 = .ok (.getfield 17, 3) := by decide +kernel
theorem d_S_nextNode_37 : decode c_S_nextNode 37 = .ok (.iload_n 1, 1) := by decide +kernel
theorem d_S_nextNode_38 : decode c_S_nextNode 38 = .ok (.aaload, 1) := by decide +kernel
theorem d_S_nextNode_39 : decode c_S_nextNode 39 = .ok (.iload 4, 2) := by decide +kernel
theorem d_S_nextNode_41 : decode c_S_nextNode 41 = .ok (.iaload, 1) := by decide +kernel
theorem d_S_nextNode_42 : decode c_S_nextNode 42 = .ok (.if_icmp .ge 6, 3) := by decide +kernel
theorem d_S_nextNode_45 : decode c_S_nextNode 45 = .ok (.iload 4, 2) := by decide +kernel
theorem d_S_nextNode_47 : decode c_S_nextNode 47 = .ok (.ireturn, 1) := by decide +kernel
theorem d_S_nextNode_48 : decode c_S_nextNode 48 = .ok (.iload_n 3, 1) := by decide +kernel
theorem d_S_nextNode_49 : decode c_S_nextNode 49 = .ok (.aload_n 0, 1) := by decide +kernel
theorem d_S_nextNode_50 : decode c_S_nextNode 50 = .ok (.getfield 17, 3) := by decide +kernel
theorem d_S_nextNode_53 : decode c_S_nextNode 53 = .ok (.iload_n 1, 1) := by decide +kernel
theorem d_S_nextNode_54 : decode c_S_nextNode 54 = .ok (.aaload, 1) := by decide +kernel
theorem d_S_nextNode_55 : decode c_S_nextNode 55 = .ok (.iload 4, 2) := by decide +kernel
theorem d_S_nextNode_57 : decode c_S_nextNode 57 = .ok (.iaload, 1) := by decide +kernel
theorem d_S_nextNode_58 : decode c_S_nextNode 58 = .ok (.isub, 1) := by decide +kernel
theorem d_S_nextNode_59 : decode c_S_nextNode 59 = .ok (.istore_n 3, 1) := by decide +kernel
theorem d_S_nextNode_60 : decode c_S_nextNode 60 = .ok (.iinc 4 1, 3) := by decide +kernel
theorem d_S_nextNode_63 : decode c_S_nextNode 63 = .ok (.goto (-40), 3) := by decide +kernel
theorem d_S_nextNode_66 : decode c_S_nextNode 66 = .ok (.iload_n 1, 1) := by decide +kernel
theorem d_S_nextNode_67 : decode c_S_nextNode 67 = .ok (.ireturn, 1) := by decide +kernel
