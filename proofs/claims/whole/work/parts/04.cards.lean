-- selects of the private methods; classes; cards
theorem ks_W_renew : Cond.selects "WalkRanks" ⟨"WalkRanks", "renew", "()V"⟩ ⟨"WalkRanks", "renew", "()V"⟩ ∈ aw_WS := aw_in (List.mem_of_getElem? (i := 0) rfl) rfl
theorem ks_S_fillParts : Cond.selects "WalkRanks$Steps" ⟨"WalkRanks$Steps", "fillParts", "(LWalkRanks$Graph;II)V"⟩ ⟨"WalkRanks$Steps", "fillParts", "(LWalkRanks$Graph;II)V"⟩ ∈ aw_WS := aw_in (List.mem_of_getElem? (i := 1) rfl) rfl
theorem ks_S_lowerParts : Cond.selects "WalkRanks$Steps" ⟨"WalkRanks$Steps", "lowerParts", "(I)V"⟩ ⟨"WalkRanks$Steps", "lowerParts", "(I)V"⟩ ∈ aw_WS := aw_in (List.mem_of_getElem? (i := 2) rfl) rfl
theorem ks_S_sumUp : Cond.selects "WalkRanks$Steps" ⟨"WalkRanks$Steps", "sumUp", "(I)V"⟩ ⟨"WalkRanks$Steps", "sumUp", "(I)V"⟩ ∈ aw_WS := aw_in (List.mem_of_getElem? (i := 3) rfl) rfl
theorem ks_S_nextOf : Cond.selects "WalkRanks$Steps" ⟨"WalkRanks$Steps", "nextOf", "(I)I"⟩ ⟨"WalkRanks$Steps", "nextOf", "(I)I"⟩ ∈ aw_WS := aw_in (List.mem_of_getElem? (i := 4) rfl) rfl
theorem ks_C_isClosedFrom : Cond.selects "WalkRanks$ClosedSets" ⟨"WalkRanks$ClosedSets", "isClosedFrom", "(I)Z"⟩ ⟨"WalkRanks$ClosedSets", "isClosedFrom", "(I)Z"⟩ ∈ aw_WS := aw_in (List.mem_of_getElem? (i := 5) rfl) rfl
theorem ks_C_addSet : Cond.selects "WalkRanks$ClosedSets" ⟨"WalkRanks$ClosedSets", "addSet", "(I)V"⟩ ⟨"WalkRanks$ClosedSets", "addSet", "(I)V"⟩ ∈ aw_WS := aw_in (List.mem_of_getElem? (i := 6) rfl) rfl
theorem ks_W_isNode : Cond.selects "WalkRanks" ⟨"WalkRanks", "isNode", "(I)Z"⟩ ⟨"WalkRanks", "isNode", "(I)Z"⟩ ∈ aw_WS := aw_in (List.mem_of_getElem? (i := 7) rfl) rfl
theorem ks_W_isSet : Cond.selects "WalkRanks" ⟨"WalkRanks", "isSet", "(I)Z"⟩ ⟨"WalkRanks", "isSet", "(I)Z"⟩ ∈ aw_WS := aw_in (List.mem_of_getElem? (i := 8) rfl) rfl
theorem ks_W_fillShares : Cond.selects "WalkRanks" ⟨"WalkRanks", "fillShares", "(I)J"⟩ ⟨"WalkRanks", "fillShares", "(I)J"⟩ ∈ aw_WS := aw_in (List.mem_of_getElem? (i := 9) rfl) rfl
theorem ks_W_nodesAhead : Cond.selects "WalkRanks" ⟨"WalkRanks", "nodesAhead", "(I)I"⟩ ⟨"WalkRanks", "nodesAhead", "(I)I"⟩ ∈ aw_WS := aw_in (List.mem_of_getElem? (i := 10) rfl) rfl
theorem ks_W_chanceToCome : Cond.selects "WalkRanks" ⟨"WalkRanks", "chanceToCome", "(III)J"⟩ ⟨"WalkRanks", "chanceToCome", "(III)J"⟩ ∈ aw_WS := aw_in (List.mem_of_getElem? (i := 11) rfl) rfl
theorem ks_P_move : Cond.selects "WalkRanks$Spread" ⟨"WalkRanks$Spread", "move", "()V"⟩ ⟨"WalkRanks$Spread", "move", "()V"⟩ ∈ aw_WS := aw_in (List.mem_of_getElem? (i := 12) rfl) rfl
theorem ks_M_isNode : Cond.selects "WalkRanksModel" ⟨"WalkRanksModel", "isNode", "(I)Z"⟩ ⟨"WalkRanksModel", "isNode", "(I)Z"⟩ ∈ aw_WS := aw_in (List.mem_of_getElem? (i := 13) rfl) rfl
theorem ks_M_findRows : Cond.selects "WalkRanksModel" ⟨"WalkRanksModel", "findRows", "()V"⟩ ⟨"WalkRanksModel", "findRows", "()V"⟩ ∈ aw_WS := aw_in (List.mem_of_getElem? (i := 14) rfl) rfl
theorem ks_M_findSets : Cond.selects "WalkRanksModel" ⟨"WalkRanksModel", "findSets", "()V"⟩ ⟨"WalkRanksModel", "findSets", "()V"⟩ ∈ aw_WS := aw_in (List.mem_of_getElem? (i := 15) rfl) rfl
theorem ks_M_isClosed : Cond.selects "WalkRanksModel" ⟨"WalkRanksModel", "isClosed", "(I)Z"⟩ ⟨"WalkRanksModel", "isClosed", "(I)Z"⟩ ∈ aw_WS := aw_in (List.mem_of_getElem? (i := 16) rfl) rfl
theorem ks_M_reached : Cond.selects "WalkRanksModel" ⟨"WalkRanksModel", "reached", "(II)I"⟩ ⟨"WalkRanksModel", "reached", "(II)I"⟩ ∈ aw_WS := aw_in (List.mem_of_getElem? (i := 17) rfl) rfl
theorem ks_M_leads : Cond.selects "WalkRanksModel" ⟨"WalkRanksModel", "leads", "(II)Z"⟩ ⟨"WalkRanksModel", "leads", "(II)Z"⟩ ∈ aw_WS := aw_in (List.mem_of_getElem? (i := 18) rfl) rfl
theorem ks_M_findShares : Cond.selects "WalkRanksModel" ⟨"WalkRanksModel", "findShares", "(I)V"⟩ ⟨"WalkRanksModel", "findShares", "(I)V"⟩ ∈ aw_WS := aw_in (List.mem_of_getElem? (i := 19) rfl) rfl
theorem ks_M_count : Cond.selects "WalkRanksModel" ⟨"WalkRanksModel", "count", "(IIII)V"⟩ ⟨"WalkRanksModel", "count", "(IIII)V"⟩ ∈ aw_WS := aw_in (List.mem_of_getElem? (i := 20) rfl) rfl
theorem ks_M_rootOf : Cond.selects "WalkRanksModel" ⟨"WalkRanksModel", "rootOf", "(II)I"⟩ ⟨"WalkRanksModel", "rootOf", "(II)I"⟩ ∈ aw_WS := aw_in (List.mem_of_getElem? (i := 21) rfl) rfl
theorem ks_M_all : Cond.selects "WalkRanksModel" ⟨"WalkRanksModel", "all", "()I"⟩ ⟨"WalkRanksModel", "all", "()I"⟩ ∈ aw_WS := aw_in (List.mem_of_getElem? (i := 22) rfl) rfl
theorem ks_W_node : Cond.selects "WalkRanks" y_W_node y_W_node ∈ aw_WS := k_168
theorem ks_G_addNode : Cond.selects "WalkRanks$Graph" y_G_addNode y_G_addNode ∈ aw_WS := k_172
theorem ks_S_renew : Cond.selects "WalkRanks$Steps" y_S_renew y_S_renew ∈ aw_WS := k_180
theorem ks_G_allJumps : Cond.selects "WalkRanks$Graph" y_G_allJumps y_G_allJumps ∈ aw_WS := k_184
theorem ks_G_outOf : Cond.selects "WalkRanks$Graph" y_G_outOf y_G_outOf ∈ aw_WS := k_192
theorem ks_C_renew : Cond.selects "WalkRanks$ClosedSets" y_C_renew y_C_renew ∈ aw_WS := k_210
theorem ks_S_nodesBehind : Cond.selects "WalkRanks$Steps" y_S_nodesBehind y_S_nodesBehind ∈ aw_WS := k_214
theorem ks_C_leadingTo : Cond.selects "WalkRanks$ClosedSets" y_C_leadingTo y_C_leadingTo ∈ aw_WS := k_231
theorem ks_W_weight : Cond.selects "WalkRanks" y_W_weight y_W_weight ∈ aw_WS := k_240
theorem ks_W_jump : Cond.selects "WalkRanks" y_W_jump y_W_jump ∈ aw_WS := k_248
theorem ks_W_keep : Cond.selects "WalkRanks" y_W_keep y_W_keep ∈ aw_WS := k_252
theorem ks_W_clear : Cond.selects "WalkRanks" y_W_clear y_W_clear ∈ aw_WS := k_256
theorem ks_W_row : Cond.selects "WalkRanks" y_W_row y_W_row ∈ aw_WS := k_260
theorem ks_W_total : Cond.selects "WalkRanks" y_W_total y_W_total ∈ aw_WS := k_264
theorem ks_W_closed : Cond.selects "WalkRanks" y_W_closed y_W_closed ∈ aw_WS := k_268
theorem ks_W_closedOf : Cond.selects "WalkRanks" y_W_closedOf y_W_closedOf ∈ aw_WS := k_272
theorem ks_W_period : Cond.selects "WalkRanks" y_W_period y_W_period ∈ aw_WS := k_276
theorem ks_S_periodAt : Cond.selects "WalkRanks$Steps" y_S_periodAt y_S_periodAt ∈ aw_WS := k_284
theorem ks_W_rank : Cond.selects "WalkRanks" y_W_rank y_W_rank ∈ aw_WS := k_288
theorem ks_E_fill : Cond.selects "WalkRanks$Equations" y_E_fill y_E_fill ∈ aw_WS := k_303
theorem ks_E_determinant : Cond.selects "WalkRanks$Equations" y_E_determinant y_E_determinant ∈ aw_WS := k_308
theorem ks_W_place : Cond.selects "WalkRanks" y_W_place y_W_place ∈ aw_WS := k_320
theorem ks_W_reach : Cond.selects "WalkRanks" y_W_reach y_W_reach ∈ aw_WS := k_328
theorem ks_E_putChances : Cond.selects "WalkRanks$Equations" y_E_putChances y_E_putChances ∈ aw_WS := k_337
theorem ks_W_hit : Cond.selects "WalkRanks" y_W_hit y_W_hit ∈ aw_WS := k_341
theorem ks_E_putStepCounts : Cond.selects "WalkRanks$Equations" y_E_putStepCounts y_E_putStepCounts ∈ aw_WS := k_346
theorem ks_W_back : Cond.selects "WalkRanks" y_W_back y_W_back ∈ aw_WS := k_350
theorem ks_W_end : Cond.selects "WalkRanks" y_W_end y_W_end ∈ aw_WS := k_354
theorem ks_W_after : Cond.selects "WalkRanks" y_W_after y_W_after ∈ aw_WS := k_358
theorem ks_S_commonTotal : Cond.selects "WalkRanks$Steps" y_S_commonTotal y_S_commonTotal ∈ aw_WS := k_362
theorem ks_P_fillBySteps : Cond.selects "WalkRanks$Spread" y_P_fillBySteps y_P_fillBySteps ∈ aw_WS := k_366
theorem ks_P_run : Cond.selects "WalkRanks$Spread" y_P_run y_P_run ∈ aw_WS := k_370
theorem ks_P_numberAt : Cond.selects "WalkRanks$Spread" y_P_numberAt y_P_numberAt ∈ aw_WS := k_378
theorem ks_W_walks : Cond.selects "WalkRanks" y_W_walks y_W_walks ∈ aw_WS := k_382
theorem ks_P_fillByWeights : Cond.selects "WalkRanks$Spread" y_P_fillByWeights y_P_fillByWeights ∈ aw_WS := k_386
theorem ks_W_drawn : Cond.selects "WalkRanks" y_W_drawn y_W_drawn ∈ aw_WS := k_390
theorem ks_S_nextNode : Cond.selects "WalkRanks$Steps" y_S_nextNode y_S_nextNode ∈ aw_WS := k_396
theorem ks_M_node : Cond.selects "WalkRanksModel" y_M_node y_M_node ∈ aw_WS := k_458
theorem ks_M_weight : Cond.selects "WalkRanksModel" y_M_weight y_M_weight ∈ aw_WS := k_462
theorem ks_M_jump : Cond.selects "WalkRanksModel" y_M_jump y_M_jump ∈ aw_WS := k_470
theorem ks_M_keep : Cond.selects "WalkRanksModel" y_M_keep y_M_keep ∈ aw_WS := k_474
theorem ks_M_clear : Cond.selects "WalkRanksModel" y_M_clear y_M_clear ∈ aw_WS := k_478
theorem ks_M_row : Cond.selects "WalkRanksModel" y_M_row y_M_row ∈ aw_WS := k_482
theorem ks_M_total : Cond.selects "WalkRanksModel" y_M_total y_M_total ∈ aw_WS := k_493
theorem ks_M_closed : Cond.selects "WalkRanksModel" y_M_closed y_M_closed ∈ aw_WS := k_497
theorem ks_M_closedOf : Cond.selects "WalkRanksModel" y_M_closedOf y_M_closedOf ∈ aw_WS := k_517
theorem ks_M_period : Cond.selects "WalkRanksModel" y_M_period y_M_period ∈ aw_WS := k_521
theorem ks_M_rank : Cond.selects "WalkRanksModel" y_M_rank y_M_rank ∈ aw_WS := k_525
theorem ks_M_place : Cond.selects "WalkRanksModel" y_M_place y_M_place ∈ aw_WS := k_550
theorem ks_M_reach : Cond.selects "WalkRanksModel" y_M_reach y_M_reach ∈ aw_WS := k_554
theorem ks_M_hit : Cond.selects "WalkRanksModel" y_M_hit y_M_hit ∈ aw_WS := k_562
theorem ks_M_back : Cond.selects "WalkRanksModel" y_M_back y_M_back ∈ aw_WS := k_566
theorem ks_M_end : Cond.selects "WalkRanksModel" y_M_end y_M_end ∈ aw_WS := k_570
theorem ks_M_after : Cond.selects "WalkRanksModel" y_M_after y_M_after ∈ aw_WS := k_574
theorem ks_M_walks : Cond.selects "WalkRanksModel" y_M_walks y_M_walks ∈ aw_WS := k_578
theorem ks_M_drawn : Cond.selects "WalkRanksModel" y_M_drawn y_M_drawn ∈ aw_WS := k_582
theorem kc_0 : aw_cc 0 r_W f_W 6 t_W := ⟨rfl, by decide +kernel, by decide +kernel, by decide +kernel⟩
theorem kc_1 : aw_cc 1 r_G f_G 5 t_G := ⟨rfl, by decide +kernel, by decide +kernel, by decide +kernel⟩
theorem kc_2 : aw_cc 2 r_S f_S 4 t_S := ⟨rfl, by decide +kernel, by decide +kernel, by decide +kernel⟩
theorem kc_3 : aw_cc 3 r_C f_C 6 t_C := ⟨rfl, by decide +kernel, by decide +kernel, by decide +kernel⟩
theorem kc_4 : aw_cc 4 r_E f_E 2 t_E := ⟨rfl, by decide +kernel, by decide +kernel, by decide +kernel⟩
theorem kc_5 : aw_cc 5 r_P f_P 4 t_P := ⟨rfl, by decide +kernel, by decide +kernel, by decide +kernel⟩
theorem kc_6 : aw_cc 6 r_M f_M 17 t_M := ⟨rfl, by decide +kernel, by decide +kernel, by decide +kernel⟩
theorem kd_W_init : aw_card y_W_init c_W_init 1 none 0 := ⟨k_12, k_1, by decide, by decide, by decide +kernel⟩
theorem kd_G_init : aw_card y_G_init c_G_init 1 none 0 := ⟨k_20, k_2, by decide, by decide, by decide +kernel⟩
theorem kd_S_init : aw_card y_S_init c_S_init 1 none 0 := ⟨k_57, k_3, by decide, by decide, by decide +kernel⟩
theorem kd_C_init : aw_card y_C_init c_C_init 1 none 0 := ⟨k_86, k_4, by decide, by decide, by decide +kernel⟩
theorem kd_E_init : aw_card y_E_init c_E_init 1 none 0 := ⟨k_115, k_5, by decide, by decide, by decide +kernel⟩
theorem kd_P_init : aw_card y_P_init c_P_init 1 none 0 := ⟨k_131, k_6, by decide, by decide, by decide +kernel⟩
theorem kd_W_node : aw_card y_W_node c_W_node 2 (some .int) 0 := ⟨k_169, k_1, by decide, by decide, by decide +kernel⟩
theorem kd_G_addNode : aw_card y_G_addNode c_G_addNode 3 (some .int) 0 := ⟨k_173, k_2, by decide, by decide, by decide +kernel⟩
theorem kd_W_renew : aw_card y_W_renew c_W_renew 1 none 0 := ⟨k_177, k_1, by decide, by decide, by decide +kernel⟩
theorem kd_S_renew : aw_card y_S_renew c_S_renew 4 none 1 := ⟨k_181, k_3, by decide, by decide, by decide +kernel⟩
theorem kd_G_allJumps : aw_card y_G_allJumps c_G_allJumps 3 (some .int) 0 := ⟨k_185, k_2, by decide, by decide, by decide +kernel⟩
theorem kd_S_fillParts : aw_card y_S_fillParts c_S_fillParts 8 none 3 := ⟨k_189, k_3, by decide, by decide, by decide +kernel⟩
theorem kd_G_outOf : aw_card y_G_outOf c_G_outOf 4 (some .int) 1 := ⟨k_193, k_2, by decide, by decide, by decide +kernel⟩
theorem kd_S_lowerParts : aw_card y_S_lowerParts c_S_lowerParts 4 none 1 := ⟨k_197, k_3, by decide, by decide, by decide +kernel⟩
theorem kd_W_greatestDivisor : aw_card y_W_greatestDivisor c_W_greatestDivisor 11 (some .long) 2 := ⟨k_200, k_1, by decide, by decide, by decide +kernel⟩
theorem kd_S_sumUp : aw_card y_S_sumUp c_S_sumUp 3 none 1 := ⟨k_204, k_3, by decide, by decide, by decide +kernel⟩
theorem kd_W_only : aw_card y_W_only c_W_only 1 (some .int) 1 := ⟨k_207, k_1, by decide, by decide, by decide +kernel⟩
theorem kd_C_renew : aw_card y_C_renew c_C_renew 3 none 1 := ⟨k_211, k_4, by decide, by decide, by decide +kernel⟩
theorem kd_S_nodesBehind : aw_card y_S_nodesBehind c_S_nodesBehind 5 (some .int) 2 := ⟨k_215, k_3, by decide, by decide, by decide +kernel⟩
theorem kd_S_nextOf : aw_card y_S_nextOf c_S_nextOf 4 (some .int) 1 := ⟨k_219, k_3, by decide, by decide, by decide +kernel⟩
theorem kd_W_has : aw_card y_W_has c_W_has 2 (some .boolean) 2 := ⟨k_222, k_1, by decide, by decide, by decide +kernel⟩
theorem kd_C_isClosedFrom : aw_card y_C_isClosedFrom c_C_isClosedFrom 2 (some .boolean) 1 := ⟨k_227, k_4, by decide, by decide, by decide +kernel⟩
theorem kd_C_leadingTo : aw_card y_C_leadingTo c_C_leadingTo 4 (some .int) 1 := ⟨k_232, k_4, by decide, by decide, by decide +kernel⟩
theorem kd_C_addSet : aw_card y_C_addSet c_C_addSet 3 none 1 := ⟨k_236, k_4, by decide, by decide, by decide +kernel⟩
theorem kd_W_weight : aw_card y_W_weight c_W_weight 5 (some .int) 3 := ⟨k_241, k_1, by decide, by decide, by decide +kernel⟩
theorem kd_W_isNode : aw_card y_W_isNode c_W_isNode 2 (some .boolean) 1 := ⟨k_245, k_1, by decide, by decide, by decide +kernel⟩
theorem kd_W_jump : aw_card y_W_jump c_W_jump 4 (some .int) 2 := ⟨k_249, k_1, by decide, by decide, by decide +kernel⟩
theorem kd_W_keep : aw_card y_W_keep c_W_keep 3 (some .int) 2 := ⟨k_253, k_1, by decide, by decide, by decide +kernel⟩
theorem kd_W_clear : aw_card y_W_clear c_W_clear 2 (some .int) 0 := ⟨k_257, k_1, by decide, by decide, by decide +kernel⟩
theorem kd_W_row : aw_card y_W_row c_W_row 3 (some .int) 2 := ⟨k_261, k_1, by decide, by decide, by decide +kernel⟩
theorem kd_W_total : aw_card y_W_total c_W_total 2 (some .int) 1 := ⟨k_265, k_1, by decide, by decide, by decide +kernel⟩
theorem kd_W_closed : aw_card y_W_closed c_W_closed 1 (some .int) 0 := ⟨k_269, k_1, by decide, by decide, by decide +kernel⟩
theorem kd_W_closedOf : aw_card y_W_closedOf c_W_closedOf 2 (some .int) 1 := ⟨k_273, k_1, by decide, by decide, by decide +kernel⟩
theorem kd_W_period : aw_card y_W_period c_W_period 2 (some .int) 1 := ⟨k_277, k_1, by decide, by decide, by decide +kernel⟩
theorem kd_W_isSet : aw_card y_W_isSet c_W_isSet 2 (some .boolean) 1 := ⟨k_281, k_1, by decide, by decide, by decide +kernel⟩
theorem kd_S_periodAt : aw_card y_S_periodAt c_S_periodAt 5 (some .int) 1 := ⟨k_285, k_3, by decide, by decide, by decide +kernel⟩
theorem kd_W_rank : aw_card y_W_rank c_W_rank 5 (some .long) 2 := ⟨k_289, k_1, by decide, by decide, by decide +kernel⟩
theorem kd_W_isPart : aw_card y_W_isPart c_W_isPart 1 (some .boolean) 1 := ⟨k_293, k_1, by decide, by decide, by decide +kernel⟩
theorem kd_W_fillShares : aw_card y_W_fillShares c_W_fillShares 5 (some .long) 1 := ⟨k_299, k_1, by decide, by decide, by decide +kernel⟩
theorem kd_E_fill : aw_card y_E_fill c_E_fill 10 none 2 := ⟨k_304, k_5, by decide, by decide, by decide +kernel⟩
theorem kd_E_determinant : aw_card y_E_determinant c_E_determinant 1 (some .long) 0 := ⟨k_309, k_5, by decide, by decide, by decide +kernel⟩
theorem kd_E_expand : aw_card y_E_expand c_E_expand 11 (some .long) 4 := ⟨k_312, k_5, by decide, by decide, by decide +kernel⟩
theorem kd_W_fraction : aw_card y_W_fraction c_W_fraction 9 (some .long) 3 := ⟨k_316, k_1, by decide, by decide, by decide +kernel⟩
theorem kd_W_place : aw_card y_W_place c_W_place 3 (some .int) 1 := ⟨k_321, k_1, by decide, by decide, by decide +kernel⟩
theorem kd_W_nodesAhead : aw_card y_W_nodesAhead c_W_nodesAhead 4 (some .int) 1 := ⟨k_325, k_1, by decide, by decide, by decide +kernel⟩
theorem kd_W_reach : aw_card y_W_reach c_W_reach 4 (some .long) 3 := ⟨k_329, k_1, by decide, by decide, by decide +kernel⟩
theorem kd_W_chanceToCome : aw_card y_W_chanceToCome c_W_chanceToCome 7 (some .long) 3 := ⟨k_333, k_1, by decide, by decide, by decide +kernel⟩
theorem kd_E_putChances : aw_card y_E_putChances c_E_putChances 7 none 4 := ⟨k_338, k_5, by decide, by decide, by decide +kernel⟩
theorem kd_W_hit : aw_card y_W_hit c_W_hit 7 (some .long) 3 := ⟨k_342, k_1, by decide, by decide, by decide +kernel⟩
theorem kd_E_putStepCounts : aw_card y_E_putStepCounts c_E_putStepCounts 5 none 3 := ⟨k_347, k_5, by decide, by decide, by decide +kernel⟩
theorem kd_W_back : aw_card y_W_back c_W_back 5 (some .long) 2 := ⟨k_351, k_1, by decide, by decide, by decide +kernel⟩
theorem kd_W_end : aw_card y_W_end c_W_end 4 (some .long) 3 := ⟨k_355, k_1, by decide, by decide, by decide +kernel⟩
theorem kd_W_after : aw_card y_W_after c_W_after 10 (some .long) 4 := ⟨k_359, k_1, by decide, by decide, by decide +kernel⟩
theorem kd_S_commonTotal : aw_card y_S_commonTotal c_S_commonTotal 6 (some .long) 0 := ⟨k_363, k_3, by decide, by decide, by decide +kernel⟩
theorem kd_P_fillBySteps : aw_card y_P_fillBySteps c_P_fillBySteps 8 none 2 := ⟨k_367, k_6, by decide, by decide, by decide +kernel⟩
theorem kd_P_run : aw_card y_P_run c_P_run 4 none 2 := ⟨k_371, k_6, by decide, by decide, by decide +kernel⟩
theorem kd_P_move : aw_card y_P_move c_P_move 3 none 0 := ⟨k_375, k_6, by decide, by decide, by decide +kernel⟩
theorem kd_P_numberAt : aw_card y_P_numberAt c_P_numberAt 2 (some .long) 1 := ⟨k_379, k_6, by decide, by decide, by decide +kernel⟩
theorem kd_W_walks : aw_card y_W_walks c_W_walks 4 (some .long) 3 := ⟨k_383, k_1, by decide, by decide, by decide +kernel⟩
theorem kd_P_fillByWeights : aw_card y_P_fillByWeights c_P_fillByWeights 4 none 1 := ⟨k_387, k_6, by decide, by decide, by decide +kernel⟩
theorem kd_W_drawn : aw_card y_W_drawn c_W_drawn 7 (some .int) 3 := ⟨k_391, k_1, by decide, by decide, by decide +kernel⟩
theorem kd_S_nextNode : aw_card y_S_nextNode c_S_nextNode 5 (some .int) 2 := ⟨k_397, k_3, by decide, by decide, by decide +kernel⟩
theorem kd_M_init : aw_card y_M_init c_M_init 1 none 0 := ⟨k_402, k_7, by decide, by decide, by decide +kernel⟩
theorem kd_M_node : aw_card y_M_node c_M_node 2 (some .int) 0 := ⟨k_459, k_7, by decide, by decide, by decide +kernel⟩
theorem kd_M_weight : aw_card y_M_weight c_M_weight 5 (some .int) 3 := ⟨k_463, k_7, by decide, by decide, by decide +kernel⟩
theorem kd_M_isNode : aw_card y_M_isNode c_M_isNode 2 (some .boolean) 1 := ⟨k_467, k_7, by decide, by decide, by decide +kernel⟩
theorem kd_M_jump : aw_card y_M_jump c_M_jump 4 (some .int) 2 := ⟨k_471, k_7, by decide, by decide, by decide +kernel⟩
theorem kd_M_keep : aw_card y_M_keep c_M_keep 3 (some .int) 2 := ⟨k_475, k_7, by decide, by decide, by decide +kernel⟩
theorem kd_M_clear : aw_card y_M_clear c_M_clear 2 (some .int) 0 := ⟨k_479, k_7, by decide, by decide, by decide +kernel⟩
theorem kd_M_row : aw_card y_M_row c_M_row 3 (some .int) 2 := ⟨k_483, k_7, by decide, by decide, by decide +kernel⟩
theorem kd_M_findRows : aw_card y_M_findRows c_M_findRows 9 none 0 := ⟨k_487, k_7, by decide, by decide, by decide +kernel⟩
theorem kd_M_common : aw_card y_M_common c_M_common 10 (some .long) 2 := ⟨k_490, k_7, by decide, by decide, by decide +kernel⟩
theorem kd_M_total : aw_card y_M_total c_M_total 2 (some .int) 1 := ⟨k_494, k_7, by decide, by decide, by decide +kernel⟩
theorem kd_M_closed : aw_card y_M_closed c_M_closed 1 (some .int) 0 := ⟨k_498, k_7, by decide, by decide, by decide +kernel⟩
theorem kd_M_findSets : aw_card y_M_findSets c_M_findSets 4 none 0 := ⟨k_502, k_7, by decide, by decide, by decide +kernel⟩
theorem kd_M_isClosed : aw_card y_M_isClosed c_M_isClosed 5 (some .boolean) 1 := ⟨k_506, k_7, by decide, by decide, by decide +kernel⟩
theorem kd_M_reached : aw_card y_M_reached c_M_reached 7 (some .int) 2 := ⟨k_510, k_7, by decide, by decide, by decide +kernel⟩
theorem kd_M_leads : aw_card y_M_leads c_M_leads 3 (some .boolean) 2 := ⟨k_514, k_7, by decide, by decide, by decide +kernel⟩
theorem kd_M_closedOf : aw_card y_M_closedOf c_M_closedOf 2 (some .int) 1 := ⟨k_518, k_7, by decide, by decide, by decide +kernel⟩
theorem kd_M_period : aw_card y_M_period c_M_period 10 (some .int) 1 := ⟨k_522, k_7, by decide, by decide, by decide +kernel⟩
theorem kd_M_rank : aw_card y_M_rank c_M_rank 3 (some .long) 2 := ⟨k_526, k_7, by decide, by decide, by decide +kernel⟩
theorem kd_M_isPart : aw_card y_M_isPart c_M_isPart 1 (some .boolean) 1 := ⟨k_530, k_7, by decide, by decide, by decide +kernel⟩
theorem kd_M_findShares : aw_card y_M_findShares c_M_findShares 3 none 1 := ⟨k_536, k_7, by decide, by decide, by decide +kernel⟩
theorem kd_M_count : aw_card y_M_count c_M_count 12 none 4 := ⟨k_540, k_7, by decide, by decide, by decide +kernel⟩
theorem kd_M_rootOf : aw_card y_M_rootOf c_M_rootOf 5 (some .int) 2 := ⟨k_544, k_7, by decide, by decide, by decide +kernel⟩
theorem kd_M_lowest : aw_card y_M_lowest c_M_lowest 7 (some .long) 3 := ⟨k_547, k_7, by decide, by decide, by decide +kernel⟩
theorem kd_M_place : aw_card y_M_place c_M_place 5 (some .int) 1 := ⟨k_551, k_7, by decide, by decide, by decide +kernel⟩
theorem kd_M_reach : aw_card y_M_reach c_M_reach 6 (some .long) 3 := ⟨k_555, k_7, by decide, by decide, by decide +kernel⟩
theorem kd_M_all : aw_card y_M_all c_M_all 1 (some .int) 0 := ⟨k_559, k_7, by decide, by decide, by decide +kernel⟩
theorem kd_M_hit : aw_card y_M_hit c_M_hit 9 (some .long) 3 := ⟨k_563, k_7, by decide, by decide, by decide +kernel⟩
theorem kd_M_back : aw_card y_M_back c_M_back 3 (some .long) 2 := ⟨k_567, k_7, by decide, by decide, by decide +kernel⟩
theorem kd_M_end : aw_card y_M_end c_M_end 6 (some .long) 3 := ⟨k_571, k_7, by decide, by decide, by decide +kernel⟩
theorem kd_M_after : aw_card y_M_after c_M_after 12 (some .long) 4 := ⟨k_575, k_7, by decide, by decide, by decide +kernel⟩
theorem kd_M_walks : aw_card y_M_walks c_M_walks 7 (some .long) 3 := ⟨k_579, k_7, by decide, by decide, by decide +kernel⟩
theorem kd_M_drawn : aw_card y_M_drawn c_M_drawn 9 (some .int) 3 := ⟨k_583, k_7, by decide, by decide, by decide +kernel⟩
