-- laid by wip/whole/m12.py
set_option maxHeartbeats 4000000 in
set_option maxRecDepth 100000 in
theorem m_G_init {g : aw_G} (hg : aw_T g) {w0 : va_W} {a : Nat} : AMet g y_G_init c_G_init 1 none 1 [.ref a] (w0 ++ [(a, .inr (1, [.int 0, .int 0, .int 0, .null, .null]))]) (fun r ws' => r = none ∧ ∃ q1 : Nat, ∃ r1 : Nat → Nat, ∃ q2 : Nat, ws' = w0 ++ [(a, .inr (1, [.int (nI 0), .int (nI 1), .int (nI 1), .ref q1, .ref q2])), (q1, aGI g r1), ((r1 0), aI g 5 (fun _ => 0)), ((r1 1), aI g 5 (fun _ => 0)), ((r1 2), aI g 5 (fun _ => 0)), ((r1 3), aI g 5 (fun _ => 0)), ((r1 4), aI g 5 (fun _ => 0)), (q2, aI g 5 (fun _ => 0))]) 7 35 := by
  refine amet_of (by decide +kernel) (Nat.le_of_ble_eq_true rfl) ?_
  refine aw_sub (lv' := [(0, .ref a)]) [0] rfl ?_
  refine aw_aload_n d_G_init_0 rfl rfl ?_
  refine aw_objInit d_G_init_1 k_21 k_14 k_15 (by decide) (by decide) ?_
  refine aw_aload_n d_G_init_4 rfl rfl ?_
  refine aw_iconst (v := nI 0) d_G_init_5 (by decide) ?_
  refine ct_put (l' := [(a, .inr (1, [.int (nI 0), .int 0, .int 0, .null, .null]))]) kc_1 0 (by decide) k_24 d_G_init_6 0 rfl rfl rfl rfl (Nat.le_of_ble_eq_true rfl) rfl ?_
  refine aw_aload_n d_G_init_9 rfl rfl ?_
  refine aw_iconst (v := nI 1) d_G_init_10 (by decide) ?_
  refine ct_put (l' := [(a, .inr (1, [.int (nI 0), .int (nI 1), .int 0, .null, .null]))]) kc_1 1 (by decide) k_28 d_G_init_11 0 rfl rfl rfl rfl (Nat.le_of_ble_eq_true rfl) rfl ?_
  refine aw_aload_n d_G_init_14 rfl rfl ?_
  refine aw_iconst (v := nI 1) d_G_init_15 (by decide) ?_
  refine ct_put (l' := [(a, .inr (1, [.int (nI 0), .int (nI 1), .int (nI 1), .null, .null]))]) kc_1 2 (by decide) k_31 d_G_init_16 0 rfl rfl rfl rfl (Nat.le_of_ble_eq_true rfl) rfl ?_
  refine aw_aload_n d_G_init_19 rfl rfl ?_
  refine aw_iconst (v := nI 5) d_G_init_20 (by decide) ?_
  refine aw_iconst (v := nI 5) d_G_init_21 (by decide) ?_
  refine ct_mnai d_G_init_22 k_22 k_52 hg (by decide) (by decide) (fun q1 r1 => ?_)
  refine ct_lst (l' := [(a, .inr (1, [.int (nI 0), .int (nI 1), .int (nI 1), .null, .null])), (q1, aGI g r1), ((r1 0), aI g 5 (fun _ => 0)), ((r1 1), aI g 5 (fun _ => 0)), ((r1 2), aI g 5 (fun _ => 0)), ((r1 3), aI g 5 (fun _ => 0)), ((r1 4), aI g 5 (fun _ => 0))]) rfl ?_
  refine ct_putF (l' := [(a, .inr (1, [.int (nI 0), .int (nI 1), .int (nI 1), .ref q1, .null])), (q1, aGI g r1), ((r1 0), aI g 5 (fun _ => 0)), ((r1 1), aI g 5 (fun _ => 0)), ((r1 2), aI g 5 (fun _ => 0)), ((r1 3), aI g 5 (fun _ => 0)), ((r1 4), aI g 5 (fun _ => 0))]) kc_1 3 (by decide) k_34 d_G_init_26 0 rfl rfl rfl rfl rfl rfl (Nat.le_of_ble_eq_true rfl) rfl ?_
  refine aw_aload_n d_G_init_29 rfl rfl ?_
  refine aw_iconst (v := nI 5) d_G_init_30 (by decide) ?_
  refine ct_newi d_G_init_31 k_52 hg (by decide) (by decide) (by decide) (fun q2 => ?_)
  refine ct_lst (l' := [(a, .inr (1, [.int (nI 0), .int (nI 1), .int (nI 1), .ref q1, .null])), (q1, aGI g r1), ((r1 0), aI g 5 (fun _ => 0)), ((r1 1), aI g 5 (fun _ => 0)), ((r1 2), aI g 5 (fun _ => 0)), ((r1 3), aI g 5 (fun _ => 0)), ((r1 4), aI g 5 (fun _ => 0)), (q2, aI g 5 (fun _ => 0))]) rfl ?_
  refine ct_putF (l' := [(a, .inr (1, [.int (nI 0), .int (nI 1), .int (nI 1), .ref q1, .ref q2])), (q1, aGI g r1), ((r1 0), aI g 5 (fun _ => 0)), ((r1 1), aI g 5 (fun _ => 0)), ((r1 2), aI g 5 (fun _ => 0)), ((r1 3), aI g 5 (fun _ => 0)), ((r1 4), aI g 5 (fun _ => 0)), (q2, aI g 5 (fun _ => 0))]) kc_1 4 (by decide) k_38 d_G_init_33 0 rfl rfl rfl rfl rfl rfl (Nat.le_of_ble_eq_true rfl) rfl ?_
  exact aw_vret d_G_init_36 (Nat.le_of_ble_eq_true rfl) (Nat.le_of_ble_eq_true rfl) ⟨rfl, q1, r1, q2, rfl⟩

set_option maxHeartbeats 4000000 in
set_option maxRecDepth 100000 in
theorem m_S_init {g : aw_G} (hg : aw_T g) {w0 : va_W} {a : Nat} : AMet g y_S_init c_S_init 1 none 1 [.ref a] (w0 ++ [(a, .inr (2, [.int 0, .null, .null, .null]))]) (fun r ws' => r = none ∧ ∃ q1 : Nat, ∃ r1 : Nat → Nat, ∃ q2 : Nat, ∃ q3 : Nat, ws' = w0 ++ [(a, .inr (2, [.int (nI 0), .ref q1, .ref q2, .ref q3])), (q1, aGI g r1), ((r1 0), aI g 5 (fun _ => 0)), ((r1 1), aI g 5 (fun _ => 0)), ((r1 2), aI g 5 (fun _ => 0)), ((r1 3), aI g 5 (fun _ => 0)), ((r1 4), aI g 5 (fun _ => 0)), (q2, aI g 5 (fun _ => 0)), (q3, aI g 5 (fun _ => 0))]) 8 40 := by
  refine amet_of (by decide +kernel) (Nat.le_of_ble_eq_true rfl) ?_
  refine aw_sub (lv' := [(0, .ref a)]) [0] rfl ?_
  refine aw_aload_n d_S_init_0 rfl rfl ?_
  refine aw_objInit d_S_init_1 k_58 k_14 k_15 (by decide) (by decide) ?_
  refine aw_aload_n d_S_init_4 rfl rfl ?_
  refine aw_iconst (v := nI 0) d_S_init_5 (by decide) ?_
  refine ct_put (l' := [(a, .inr (2, [.int (nI 0), .null, .null, .null]))]) kc_2 0 (by decide) k_60 d_S_init_6 0 rfl rfl rfl rfl (Nat.le_of_ble_eq_true rfl) rfl ?_
  refine aw_aload_n d_S_init_9 rfl rfl ?_
  refine aw_iconst (v := nI 5) d_S_init_10 (by decide) ?_
  refine aw_iconst (v := nI 5) d_S_init_11 (by decide) ?_
  refine ct_mnai d_S_init_12 k_59 k_52 hg (by decide) (by decide) (fun q1 r1 => ?_)
  refine ct_lst (l' := [(a, .inr (2, [.int (nI 0), .null, .null, .null])), (q1, aGI g r1), ((r1 0), aI g 5 (fun _ => 0)), ((r1 1), aI g 5 (fun _ => 0)), ((r1 2), aI g 5 (fun _ => 0)), ((r1 3), aI g 5 (fun _ => 0)), ((r1 4), aI g 5 (fun _ => 0))]) rfl ?_
  refine ct_putF (l' := [(a, .inr (2, [.int (nI 0), .ref q1, .null, .null])), (q1, aGI g r1), ((r1 0), aI g 5 (fun _ => 0)), ((r1 1), aI g 5 (fun _ => 0)), ((r1 2), aI g 5 (fun _ => 0)), ((r1 3), aI g 5 (fun _ => 0)), ((r1 4), aI g 5 (fun _ => 0))]) kc_2 1 (by decide) k_64 d_S_init_16 0 rfl rfl rfl rfl rfl rfl (Nat.le_of_ble_eq_true rfl) rfl ?_
  refine aw_aload_n d_S_init_19 rfl rfl ?_
  refine aw_iconst (v := nI 5) d_S_init_20 (by decide) ?_
  refine ct_newi d_S_init_21 k_52 hg (by decide) (by decide) (by decide) (fun q2 => ?_)
  refine ct_lst (l' := [(a, .inr (2, [.int (nI 0), .ref q1, .null, .null])), (q1, aGI g r1), ((r1 0), aI g 5 (fun _ => 0)), ((r1 1), aI g 5 (fun _ => 0)), ((r1 2), aI g 5 (fun _ => 0)), ((r1 3), aI g 5 (fun _ => 0)), ((r1 4), aI g 5 (fun _ => 0)), (q2, aI g 5 (fun _ => 0))]) rfl ?_
  refine ct_putF (l' := [(a, .inr (2, [.int (nI 0), .ref q1, .ref q2, .null])), (q1, aGI g r1), ((r1 0), aI g 5 (fun _ => 0)), ((r1 1), aI g 5 (fun _ => 0)), ((r1 2), aI g 5 (fun _ => 0)), ((r1 3), aI g 5 (fun _ => 0)), ((r1 4), aI g 5 (fun _ => 0)), (q2, aI g 5 (fun _ => 0))]) kc_2 2 (by decide) k_68 d_S_init_23 0 rfl rfl rfl rfl rfl rfl (Nat.le_of_ble_eq_true rfl) rfl ?_
  refine aw_aload_n d_S_init_26 rfl rfl ?_
  refine aw_iconst (v := nI 5) d_S_init_27 (by decide) ?_
  refine ct_newi d_S_init_28 k_52 hg (by decide) (by decide) (by decide) (fun q3 => ?_)
  refine ct_lst (l' := [(a, .inr (2, [.int (nI 0), .ref q1, .ref q2, .null])), (q1, aGI g r1), ((r1 0), aI g 5 (fun _ => 0)), ((r1 1), aI g 5 (fun _ => 0)), ((r1 2), aI g 5 (fun _ => 0)), ((r1 3), aI g 5 (fun _ => 0)), ((r1 4), aI g 5 (fun _ => 0)), (q2, aI g 5 (fun _ => 0)), (q3, aI g 5 (fun _ => 0))]) rfl ?_
  refine ct_putF (l' := [(a, .inr (2, [.int (nI 0), .ref q1, .ref q2, .ref q3])), (q1, aGI g r1), ((r1 0), aI g 5 (fun _ => 0)), ((r1 1), aI g 5 (fun _ => 0)), ((r1 2), aI g 5 (fun _ => 0)), ((r1 3), aI g 5 (fun _ => 0)), ((r1 4), aI g 5 (fun _ => 0)), (q2, aI g 5 (fun _ => 0)), (q3, aI g 5 (fun _ => 0))]) kc_2 3 (by decide) k_72 d_S_init_30 0 rfl rfl rfl rfl rfl rfl (Nat.le_of_ble_eq_true rfl) rfl ?_
  exact aw_vret d_S_init_33 (Nat.le_of_ble_eq_true rfl) (Nat.le_of_ble_eq_true rfl) ⟨rfl, q1, r1, q2, q3, rfl⟩

set_option maxHeartbeats 4000000 in
set_option maxRecDepth 100000 in
theorem m_C_init {g : aw_G} (hg : aw_T g) {w0 : va_W} {a : Nat} : AMet g y_C_init c_C_init 1 none 1 [.ref a] (w0 ++ [(a, .inr (3, [.int 0, .null, .null, .null, .int 0, .null]))]) (fun r ws' => r = none ∧ ∃ q1 : Nat, ∃ q2 : Nat, ∃ q3 : Nat, ∃ q4 : Nat, ws' = w0 ++ [(a, .inr (3, [.int (nI 0), .ref q1, .ref q2, .ref q3, .int (nI 0), .ref q4])), (q1, aI g 5 (fun _ => 0)), (q2, aI g 5 (fun _ => 0)), (q3, aI g 5 (fun _ => 0)), (q4, aI g 5 (fun _ => 0))]) 4 20 := by
  refine amet_of (by decide +kernel) (Nat.le_of_ble_eq_true rfl) ?_
  refine aw_sub (lv' := [(0, .ref a)]) [0] rfl ?_
  refine aw_aload_n d_C_init_0 rfl rfl ?_
  refine aw_objInit d_C_init_1 k_87 k_14 k_15 (by decide) (by decide) ?_
  refine aw_aload_n d_C_init_4 rfl rfl ?_
  refine aw_iconst (v := nI 0) d_C_init_5 (by decide) ?_
  refine ct_put (l' := [(a, .inr (3, [.int (nI 0), .null, .null, .null, .int 0, .null]))]) kc_3 0 (by decide) k_88 d_C_init_6 0 rfl rfl rfl rfl (Nat.le_of_ble_eq_true rfl) rfl ?_
  refine aw_aload_n d_C_init_9 rfl rfl ?_
  refine aw_iconst (v := nI 5) d_C_init_10 (by decide) ?_
  refine ct_newi d_C_init_11 k_52 hg (by decide) (by decide) (by decide) (fun q1 => ?_)
  refine ct_lst (l' := [(a, .inr (3, [.int (nI 0), .null, .null, .null, .int 0, .null])), (q1, aI g 5 (fun _ => 0))]) rfl ?_
  refine ct_putF (l' := [(a, .inr (3, [.int (nI 0), .ref q1, .null, .null, .int 0, .null])), (q1, aI g 5 (fun _ => 0))]) kc_3 1 (by decide) k_90 d_C_init_13 0 rfl rfl rfl rfl rfl rfl (Nat.le_of_ble_eq_true rfl) rfl ?_
  refine aw_aload_n d_C_init_16 rfl rfl ?_
  refine aw_iconst (v := nI 5) d_C_init_17 (by decide) ?_
  refine ct_newi d_C_init_18 k_52 hg (by decide) (by decide) (by decide) (fun q2 => ?_)
  refine ct_lst (l' := [(a, .inr (3, [.int (nI 0), .ref q1, .null, .null, .int 0, .null])), (q1, aI g 5 (fun _ => 0)), (q2, aI g 5 (fun _ => 0))]) rfl ?_
  refine ct_putF (l' := [(a, .inr (3, [.int (nI 0), .ref q1, .ref q2, .null, .int 0, .null])), (q1, aI g 5 (fun _ => 0)), (q2, aI g 5 (fun _ => 0))]) kc_3 2 (by decide) k_92 d_C_init_20 0 rfl rfl rfl rfl rfl rfl (Nat.le_of_ble_eq_true rfl) rfl ?_
  refine aw_aload_n d_C_init_23 rfl rfl ?_
  refine aw_iconst (v := nI 5) d_C_init_24 (by decide) ?_
  refine ct_newi d_C_init_25 k_52 hg (by decide) (by decide) (by decide) (fun q3 => ?_)
  refine ct_lst (l' := [(a, .inr (3, [.int (nI 0), .ref q1, .ref q2, .null, .int 0, .null])), (q1, aI g 5 (fun _ => 0)), (q2, aI g 5 (fun _ => 0)), (q3, aI g 5 (fun _ => 0))]) rfl ?_
  refine ct_putF (l' := [(a, .inr (3, [.int (nI 0), .ref q1, .ref q2, .ref q3, .int 0, .null])), (q1, aI g 5 (fun _ => 0)), (q2, aI g 5 (fun _ => 0)), (q3, aI g 5 (fun _ => 0))]) kc_3 3 (by decide) k_94 d_C_init_27 0 rfl rfl rfl rfl rfl rfl (Nat.le_of_ble_eq_true rfl) rfl ?_
  refine aw_aload_n d_C_init_30 rfl rfl ?_
  refine aw_iconst (v := nI 0) d_C_init_31 (by decide) ?_
  refine ct_put (l' := [(a, .inr (3, [.int (nI 0), .ref q1, .ref q2, .ref q3, .int (nI 0), .null])), (q1, aI g 5 (fun _ => 0)), (q2, aI g 5 (fun _ => 0)), (q3, aI g 5 (fun _ => 0))]) kc_3 4 (by decide) k_96 d_C_init_32 0 rfl rfl rfl rfl (Nat.le_of_ble_eq_true rfl) rfl ?_
  refine aw_aload_n d_C_init_35 rfl rfl ?_
  refine aw_iconst (v := nI 5) d_C_init_36 (by decide) ?_
  refine ct_newi d_C_init_37 k_52 hg (by decide) (by decide) (by decide) (fun q4 => ?_)
  refine ct_lst (l' := [(a, .inr (3, [.int (nI 0), .ref q1, .ref q2, .ref q3, .int (nI 0), .null])), (q1, aI g 5 (fun _ => 0)), (q2, aI g 5 (fun _ => 0)), (q3, aI g 5 (fun _ => 0)), (q4, aI g 5 (fun _ => 0))]) rfl ?_
  refine ct_putF (l' := [(a, .inr (3, [.int (nI 0), .ref q1, .ref q2, .ref q3, .int (nI 0), .ref q4])), (q1, aI g 5 (fun _ => 0)), (q2, aI g 5 (fun _ => 0)), (q3, aI g 5 (fun _ => 0)), (q4, aI g 5 (fun _ => 0))]) kc_3 5 (by decide) k_97 d_C_init_39 0 rfl rfl rfl rfl rfl rfl (Nat.le_of_ble_eq_true rfl) rfl ?_
  exact aw_vret d_C_init_42 (Nat.le_of_ble_eq_true rfl) (Nat.le_of_ble_eq_true rfl) ⟨rfl, q1, q2, q3, q4, rfl⟩

set_option maxHeartbeats 4000000 in
set_option maxRecDepth 100000 in
theorem m_E_init {g : aw_G} (hg : aw_T g) {w0 : va_W} {a : Nat} : AMet g y_E_init c_E_init 1 none 1 [.ref a] (w0 ++ [(a, .inr (4, [.int 0, .null]))]) (fun r ws' => r = none ∧ ∃ q1 : Nat, ∃ r1 : Nat → Nat, ws' = w0 ++ [(a, .inr (4, [.int (nI 0), .ref q1])), (q1, aGL g r1), ((r1 0), aL g 5 (fun _ => 0)), ((r1 1), aL g 5 (fun _ => 0)), ((r1 2), aL g 5 (fun _ => 0)), ((r1 3), aL g 5 (fun _ => 0)), ((r1 4), aL g 5 (fun _ => 0))]) 6 30 := by
  refine amet_of (by decide +kernel) (Nat.le_of_ble_eq_true rfl) ?_
  refine aw_sub (lv' := [(0, .ref a)]) [0] rfl ?_
  refine aw_aload_n d_E_init_0 rfl rfl ?_
  refine aw_objInit d_E_init_1 k_116 k_14 k_15 (by decide) (by decide) ?_
  refine aw_aload_n d_E_init_4 rfl rfl ?_
  refine aw_iconst (v := nI 0) d_E_init_5 (by decide) ?_
  refine ct_put (l' := [(a, .inr (4, [.int (nI 0), .null]))]) kc_4 0 (by decide) k_119 d_E_init_6 0 rfl rfl rfl rfl (Nat.le_of_ble_eq_true rfl) rfl ?_
  refine aw_aload_n d_E_init_9 rfl rfl ?_
  refine aw_iconst (v := nI 5) d_E_init_10 (by decide) ?_
  refine aw_iconst (v := nI 5) d_E_init_11 (by decide) ?_
  refine ct_mnal d_E_init_12 k_117 k_126 hg (by decide) (by decide) (fun q1 r1 => ?_)
  refine ct_lst (l' := [(a, .inr (4, [.int (nI 0), .null])), (q1, aGL g r1), ((r1 0), aL g 5 (fun _ => 0)), ((r1 1), aL g 5 (fun _ => 0)), ((r1 2), aL g 5 (fun _ => 0)), ((r1 3), aL g 5 (fun _ => 0)), ((r1 4), aL g 5 (fun _ => 0))]) rfl ?_
  refine ct_putF (l' := [(a, .inr (4, [.int (nI 0), .ref q1])), (q1, aGL g r1), ((r1 0), aL g 5 (fun _ => 0)), ((r1 1), aL g 5 (fun _ => 0)), ((r1 2), aL g 5 (fun _ => 0)), ((r1 3), aL g 5 (fun _ => 0)), ((r1 4), aL g 5 (fun _ => 0))]) kc_4 1 (by decide) k_120 d_E_init_16 0 rfl rfl rfl rfl rfl rfl (Nat.le_of_ble_eq_true rfl) rfl ?_
  exact aw_vret d_E_init_19 (Nat.le_of_ble_eq_true rfl) (Nat.le_of_ble_eq_true rfl) ⟨rfl, q1, r1, rfl⟩

set_option maxHeartbeats 4000000 in
set_option maxRecDepth 100000 in
theorem m_P_init {g : aw_G} (hg : aw_T g) {w0 : va_W} {a : Nat} : AMet g y_P_init c_P_init 1 none 1 [.ref a] (w0 ++ [(a, .inr (5, [.null, .null, .int 0, .null]))]) (fun r ws' => r = none ∧ ∃ q1 : Nat, ∃ q2 : Nat, ∃ q3 : Nat, ∃ r3 : Nat → Nat, ws' = w0 ++ [(a, .inr (5, [.ref q1, .ref q2, .int (nI 0), .ref q3])), (q1, aL g 5 (fun _ => 0)), (q2, aL g 5 (fun _ => 0)), (q3, aGL g r3), ((r3 0), aL g 5 (fun _ => 0)), ((r3 1), aL g 5 (fun _ => 0)), ((r3 2), aL g 5 (fun _ => 0)), ((r3 3), aL g 5 (fun _ => 0)), ((r3 4), aL g 5 (fun _ => 0))]) 8 40 := by
  refine amet_of (by decide +kernel) (Nat.le_of_ble_eq_true rfl) ?_
  refine aw_sub (lv' := [(0, .ref a)]) [0] rfl ?_
  refine aw_aload_n d_P_init_0 rfl rfl ?_
  refine aw_objInit d_P_init_1 k_132 k_14 k_15 (by decide) (by decide) ?_
  refine aw_aload_n d_P_init_4 rfl rfl ?_
  refine aw_iconst (v := nI 5) d_P_init_5 (by decide) ?_
  refine ct_newl d_P_init_6 k_126 hg (by decide) (by decide) (by decide) (fun q1 => ?_)
  refine ct_lst (l' := [(a, .inr (5, [.null, .null, .int 0, .null])), (q1, aL g 5 (fun _ => 0))]) rfl ?_
  refine ct_put (l' := [(a, .inr (5, [.ref q1, .null, .int 0, .null])), (q1, aL g 5 (fun _ => 0))]) kc_5 0 (by decide) k_134 d_P_init_8 0 rfl rfl rfl rfl (Nat.le_of_ble_eq_true rfl) rfl ?_
  refine aw_aload_n d_P_init_11 rfl rfl ?_
  refine aw_iconst (v := nI 5) d_P_init_12 (by decide) ?_
  refine ct_newl d_P_init_13 k_126 hg (by decide) (by decide) (by decide) (fun q2 => ?_)
  refine ct_lst (l' := [(a, .inr (5, [.ref q1, .null, .int 0, .null])), (q1, aL g 5 (fun _ => 0)), (q2, aL g 5 (fun _ => 0))]) rfl ?_
  refine ct_put (l' := [(a, .inr (5, [.ref q1, .ref q2, .int 0, .null])), (q1, aL g 5 (fun _ => 0)), (q2, aL g 5 (fun _ => 0))]) kc_5 1 (by decide) k_135 d_P_init_15 0 rfl rfl rfl rfl (Nat.le_of_ble_eq_true rfl) rfl ?_
  refine aw_aload_n d_P_init_18 rfl rfl ?_
  refine aw_iconst (v := nI 0) d_P_init_19 (by decide) ?_
  refine ct_put (l' := [(a, .inr (5, [.ref q1, .ref q2, .int (nI 0), .null])), (q1, aL g 5 (fun _ => 0)), (q2, aL g 5 (fun _ => 0))]) kc_5 2 (by decide) k_136 d_P_init_20 0 rfl rfl rfl rfl (Nat.le_of_ble_eq_true rfl) rfl ?_
  refine aw_aload_n d_P_init_23 rfl rfl ?_
  refine aw_iconst (v := nI 5) d_P_init_24 (by decide) ?_
  refine aw_iconst (v := nI 5) d_P_init_25 (by decide) ?_
  refine ct_mnal d_P_init_26 k_133 k_126 hg (by decide) (by decide) (fun q3 r3 => ?_)
  refine ct_lst (l' := [(a, .inr (5, [.ref q1, .ref q2, .int (nI 0), .null])), (q1, aL g 5 (fun _ => 0)), (q2, aL g 5 (fun _ => 0)), (q3, aGL g r3), ((r3 0), aL g 5 (fun _ => 0)), ((r3 1), aL g 5 (fun _ => 0)), ((r3 2), aL g 5 (fun _ => 0)), ((r3 3), aL g 5 (fun _ => 0)), ((r3 4), aL g 5 (fun _ => 0))]) rfl ?_
  refine ct_putF (l' := [(a, .inr (5, [.ref q1, .ref q2, .int (nI 0), .ref q3])), (q1, aL g 5 (fun _ => 0)), (q2, aL g 5 (fun _ => 0)), (q3, aGL g r3), ((r3 0), aL g 5 (fun _ => 0)), ((r3 1), aL g 5 (fun _ => 0)), ((r3 2), aL g 5 (fun _ => 0)), ((r3 3), aL g 5 (fun _ => 0)), ((r3 4), aL g 5 (fun _ => 0))]) kc_5 3 (by decide) k_137 d_P_init_30 0 rfl rfl rfl rfl rfl rfl (Nat.le_of_ble_eq_true rfl) rfl ?_
  exact aw_vret d_P_init_33 (Nat.le_of_ble_eq_true rfl) (Nat.le_of_ble_eq_true rfl) ⟨rfl, q1, q2, q3, r3, rfl⟩

set_option maxHeartbeats 4000000 in
set_option maxRecDepth 100000 in
theorem m_M_init {g : aw_G} (hg : aw_T g) {w0 : va_W} {a : Nat} : AMet g y_M_init c_M_init 1 none 1 [.ref a] (w0 ++ [(a, .inr (6, [.int 0, .null, .null, .int 0, .int 0, .null, .null, .int 0, .null, .null, .long 0, .long 0, .null, .null, .long 0, .null, .null]))]) (fun r ws' => r = none ∧ ∃ q1 : Nat, ∃ q2 : Nat, ∃ q3 : Nat, ∃ q4 : Nat, ∃ q5 : Nat, ∃ q6 : Nat, ∃ q7 : Nat, ∃ q8 : Nat, ∃ q9 : Nat, ∃ q10 : Nat, ws' = w0 ++ [(a, .inr (6, [.int 0, .ref q1, .ref q2, .int (nI 1), .int (nI 1), .ref q3, .ref q4, .int 0, .ref q5, .ref q6, .long 0, .long 0, .ref q7, .ref q8, .long 0, .ref q9, .ref q10])), (q1, aI g 25 (fun _ => 0)), (q2, aI g 5 (fun _ => 0)), (q3, aI g 25 (fun _ => 0)), (q4, aI g 5 (fun _ => 0)), (q5, aI g 5 (fun _ => 0)), (q6, aI g 5 (fun _ => 0)), (q7, aI g 5 (fun _ => 0)), (q8, aL g 5 (fun _ => 0)), (q9, aL g 5 (fun _ => 0)), (q10, aL g 5 (fun _ => 0))]) 10 90 := by
  refine amet_of (by decide +kernel) (Nat.le_of_ble_eq_true rfl) ?_
  refine aw_sub (lv' := [(0, .ref a)]) [0] rfl ?_
  refine aw_aload_n d_M_init_0 rfl rfl ?_
  refine aw_objInit d_M_init_1 k_403 k_14 k_15 (by decide) (by decide) ?_
  refine aw_aload_n d_M_init_4 rfl rfl ?_
  refine aw_bipush (v := nI 25) d_M_init_5 (by decide) ?_
  refine ct_newi d_M_init_7 k_52 hg (by decide) (by decide) (by decide) (fun q1 => ?_)
  refine ct_lst (l' := [(a, .inr (6, [.int 0, .null, .null, .int 0, .int 0, .null, .null, .int 0, .null, .null, .long 0, .long 0, .null, .null, .long 0, .null, .null])), (q1, aI g 25 (fun _ => 0))]) rfl ?_
  refine ct_putF (l' := [(a, .inr (6, [.int 0, .ref q1, .null, .int 0, .int 0, .null, .null, .int 0, .null, .null, .long 0, .long 0, .null, .null, .long 0, .null, .null])), (q1, aI g 25 (fun _ => 0))]) kc_6 1 (by decide) k_405 d_M_init_9 0 rfl rfl rfl rfl rfl rfl (Nat.le_of_ble_eq_true rfl) rfl ?_
  refine aw_aload_n d_M_init_12 rfl rfl ?_
  refine aw_iconst (v := nI 5) d_M_init_13 (by decide) ?_
  refine ct_newi d_M_init_14 k_52 hg (by decide) (by decide) (by decide) (fun q2 => ?_)
  refine ct_lst (l' := [(a, .inr (6, [.int 0, .ref q1, .null, .int 0, .int 0, .null, .null, .int 0, .null, .null, .long 0, .long 0, .null, .null, .long 0, .null, .null])), (q1, aI g 25 (fun _ => 0)), (q2, aI g 5 (fun _ => 0))]) rfl ?_
  refine ct_putF (l' := [(a, .inr (6, [.int 0, .ref q1, .ref q2, .int 0, .int 0, .null, .null, .int 0, .null, .null, .long 0, .long 0, .null, .null, .long 0, .null, .null])), (q1, aI g 25 (fun _ => 0)), (q2, aI g 5 (fun _ => 0))]) kc_6 2 (by decide) k_406 d_M_init_16 0 rfl rfl rfl rfl rfl rfl (Nat.le_of_ble_eq_true rfl) rfl ?_
  refine aw_aload_n d_M_init_19 rfl rfl ?_
  refine aw_iconst (v := nI 1) d_M_init_20 (by decide) ?_
  refine ct_put (l' := [(a, .inr (6, [.int 0, .ref q1, .ref q2, .int (nI 1), .int 0, .null, .null, .int 0, .null, .null, .long 0, .long 0, .null, .null, .long 0, .null, .null])), (q1, aI g 25 (fun _ => 0)), (q2, aI g 5 (fun _ => 0))]) kc_6 3 (by decide) k_407 d_M_init_21 0 rfl rfl rfl rfl (Nat.le_of_ble_eq_true rfl) rfl ?_
  refine aw_aload_n d_M_init_24 rfl rfl ?_
  refine aw_iconst (v := nI 1) d_M_init_25 (by decide) ?_
  refine ct_put (l' := [(a, .inr (6, [.int 0, .ref q1, .ref q2, .int (nI 1), .int (nI 1), .null, .null, .int 0, .null, .null, .long 0, .long 0, .null, .null, .long 0, .null, .null])), (q1, aI g 25 (fun _ => 0)), (q2, aI g 5 (fun _ => 0))]) kc_6 4 (by decide) k_408 d_M_init_26 0 rfl rfl rfl rfl (Nat.le_of_ble_eq_true rfl) rfl ?_
  refine aw_aload_n d_M_init_29 rfl rfl ?_
  refine aw_bipush (v := nI 25) d_M_init_30 (by decide) ?_
  refine ct_newi d_M_init_32 k_52 hg (by decide) (by decide) (by decide) (fun q3 => ?_)
  refine ct_lst (l' := [(a, .inr (6, [.int 0, .ref q1, .ref q2, .int (nI 1), .int (nI 1), .null, .null, .int 0, .null, .null, .long 0, .long 0, .null, .null, .long 0, .null, .null])), (q1, aI g 25 (fun _ => 0)), (q2, aI g 5 (fun _ => 0)), (q3, aI g 25 (fun _ => 0))]) rfl ?_
  refine ct_putF (l' := [(a, .inr (6, [.int 0, .ref q1, .ref q2, .int (nI 1), .int (nI 1), .ref q3, .null, .int 0, .null, .null, .long 0, .long 0, .null, .null, .long 0, .null, .null])), (q1, aI g 25 (fun _ => 0)), (q2, aI g 5 (fun _ => 0)), (q3, aI g 25 (fun _ => 0))]) kc_6 5 (by decide) k_409 d_M_init_34 0 rfl rfl rfl rfl rfl rfl (Nat.le_of_ble_eq_true rfl) rfl ?_
  refine aw_aload_n d_M_init_37 rfl rfl ?_
  refine aw_iconst (v := nI 5) d_M_init_38 (by decide) ?_
  refine ct_newi d_M_init_39 k_52 hg (by decide) (by decide) (by decide) (fun q4 => ?_)
  refine ct_lst (l' := [(a, .inr (6, [.int 0, .ref q1, .ref q2, .int (nI 1), .int (nI 1), .ref q3, .null, .int 0, .null, .null, .long 0, .long 0, .null, .null, .long 0, .null, .null])), (q1, aI g 25 (fun _ => 0)), (q2, aI g 5 (fun _ => 0)), (q3, aI g 25 (fun _ => 0)), (q4, aI g 5 (fun _ => 0))]) rfl ?_
  refine ct_putF (l' := [(a, .inr (6, [.int 0, .ref q1, .ref q2, .int (nI 1), .int (nI 1), .ref q3, .ref q4, .int 0, .null, .null, .long 0, .long 0, .null, .null, .long 0, .null, .null])), (q1, aI g 25 (fun _ => 0)), (q2, aI g 5 (fun _ => 0)), (q3, aI g 25 (fun _ => 0)), (q4, aI g 5 (fun _ => 0))]) kc_6 6 (by decide) k_410 d_M_init_41 0 rfl rfl rfl rfl rfl rfl (Nat.le_of_ble_eq_true rfl) rfl ?_
  refine aw_aload_n d_M_init_44 rfl rfl ?_
  refine aw_iconst (v := nI 5) d_M_init_45 (by decide) ?_
  refine ct_newi d_M_init_46 k_52 hg (by decide) (by decide) (by decide) (fun q5 => ?_)
  refine ct_lst (l' := [(a, .inr (6, [.int 0, .ref q1, .ref q2, .int (nI 1), .int (nI 1), .ref q3, .ref q4, .int 0, .null, .null, .long 0, .long 0, .null, .null, .long 0, .null, .null])), (q1, aI g 25 (fun _ => 0)), (q2, aI g 5 (fun _ => 0)), (q3, aI g 25 (fun _ => 0)), (q4, aI g 5 (fun _ => 0)), (q5, aI g 5 (fun _ => 0))]) rfl ?_
  refine ct_putF (l' := [(a, .inr (6, [.int 0, .ref q1, .ref q2, .int (nI 1), .int (nI 1), .ref q3, .ref q4, .int 0, .ref q5, .null, .long 0, .long 0, .null, .null, .long 0, .null, .null])), (q1, aI g 25 (fun _ => 0)), (q2, aI g 5 (fun _ => 0)), (q3, aI g 25 (fun _ => 0)), (q4, aI g 5 (fun _ => 0)), (q5, aI g 5 (fun _ => 0))]) kc_6 8 (by decide) k_412 d_M_init_48 0 rfl rfl rfl rfl rfl rfl (Nat.le_of_ble_eq_true rfl) rfl ?_
  refine aw_aload_n d_M_init_51 rfl rfl ?_
  refine aw_iconst (v := nI 5) d_M_init_52 (by decide) ?_
  refine ct_newi d_M_init_53 k_52 hg (by decide) (by decide) (by decide) (fun q6 => ?_)
  refine ct_lst (l' := [(a, .inr (6, [.int 0, .ref q1, .ref q2, .int (nI 1), .int (nI 1), .ref q3, .ref q4, .int 0, .ref q5, .null, .long 0, .long 0, .null, .null, .long 0, .null, .null])), (q1, aI g 25 (fun _ => 0)), (q2, aI g 5 (fun _ => 0)), (q3, aI g 25 (fun _ => 0)), (q4, aI g 5 (fun _ => 0)), (q5, aI g 5 (fun _ => 0)), (q6, aI g 5 (fun _ => 0))]) rfl ?_
  refine ct_putF (l' := [(a, .inr (6, [.int 0, .ref q1, .ref q2, .int (nI 1), .int (nI 1), .ref q3, .ref q4, .int 0, .ref q5, .ref q6, .long 0, .long 0, .null, .null, .long 0, .null, .null])), (q1, aI g 25 (fun _ => 0)), (q2, aI g 5 (fun _ => 0)), (q3, aI g 25 (fun _ => 0)), (q4, aI g 5 (fun _ => 0)), (q5, aI g 5 (fun _ => 0)), (q6, aI g 5 (fun _ => 0))]) kc_6 9 (by decide) k_413 d_M_init_55 0 rfl rfl rfl rfl rfl rfl (Nat.le_of_ble_eq_true rfl) rfl ?_
  refine aw_aload_n d_M_init_58 rfl rfl ?_
  refine aw_iconst (v := nI 5) d_M_init_59 (by decide) ?_
  refine ct_newi d_M_init_60 k_52 hg (by decide) (by decide) (by decide) (fun q7 => ?_)
  refine ct_lst (l' := [(a, .inr (6, [.int 0, .ref q1, .ref q2, .int (nI 1), .int (nI 1), .ref q3, .ref q4, .int 0, .ref q5, .ref q6, .long 0, .long 0, .null, .null, .long 0, .null, .null])), (q1, aI g 25 (fun _ => 0)), (q2, aI g 5 (fun _ => 0)), (q3, aI g 25 (fun _ => 0)), (q4, aI g 5 (fun _ => 0)), (q5, aI g 5 (fun _ => 0)), (q6, aI g 5 (fun _ => 0)), (q7, aI g 5 (fun _ => 0))]) rfl ?_
  refine ct_putF (l' := [(a, .inr (6, [.int 0, .ref q1, .ref q2, .int (nI 1), .int (nI 1), .ref q3, .ref q4, .int 0, .ref q5, .ref q6, .long 0, .long 0, .ref q7, .null, .long 0, .null, .null])), (q1, aI g 25 (fun _ => 0)), (q2, aI g 5 (fun _ => 0)), (q3, aI g 25 (fun _ => 0)), (q4, aI g 5 (fun _ => 0)), (q5, aI g 5 (fun _ => 0)), (q6, aI g 5 (fun _ => 0)), (q7, aI g 5 (fun _ => 0))]) kc_6 12 (by decide) k_416 d_M_init_62 0 rfl rfl rfl rfl rfl rfl (Nat.le_of_ble_eq_true rfl) rfl ?_
  refine aw_aload_n d_M_init_65 rfl rfl ?_
  refine aw_iconst (v := nI 5) d_M_init_66 (by decide) ?_
  refine ct_newl d_M_init_67 k_126 hg (by decide) (by decide) (by decide) (fun q8 => ?_)
  refine ct_lst (l' := [(a, .inr (6, [.int 0, .ref q1, .ref q2, .int (nI 1), .int (nI 1), .ref q3, .ref q4, .int 0, .ref q5, .ref q6, .long 0, .long 0, .ref q7, .null, .long 0, .null, .null])), (q1, aI g 25 (fun _ => 0)), (q2, aI g 5 (fun _ => 0)), (q3, aI g 25 (fun _ => 0)), (q4, aI g 5 (fun _ => 0)), (q5, aI g 5 (fun _ => 0)), (q6, aI g 5 (fun _ => 0)), (q7, aI g 5 (fun _ => 0)), (q8, aL g 5 (fun _ => 0))]) rfl ?_
  refine ct_putF (l' := [(a, .inr (6, [.int 0, .ref q1, .ref q2, .int (nI 1), .int (nI 1), .ref q3, .ref q4, .int 0, .ref q5, .ref q6, .long 0, .long 0, .ref q7, .ref q8, .long 0, .null, .null])), (q1, aI g 25 (fun _ => 0)), (q2, aI g 5 (fun _ => 0)), (q3, aI g 25 (fun _ => 0)), (q4, aI g 5 (fun _ => 0)), (q5, aI g 5 (fun _ => 0)), (q6, aI g 5 (fun _ => 0)), (q7, aI g 5 (fun _ => 0)), (q8, aL g 5 (fun _ => 0))]) kc_6 13 (by decide) k_417 d_M_init_69 0 rfl rfl rfl rfl rfl rfl (Nat.le_of_ble_eq_true rfl) rfl ?_
  refine aw_aload_n d_M_init_72 rfl rfl ?_
  refine aw_iconst (v := nI 5) d_M_init_73 (by decide) ?_
  refine ct_newl d_M_init_74 k_126 hg (by decide) (by decide) (by decide) (fun q9 => ?_)
  refine ct_lst (l' := [(a, .inr (6, [.int 0, .ref q1, .ref q2, .int (nI 1), .int (nI 1), .ref q3, .ref q4, .int 0, .ref q5, .ref q6, .long 0, .long 0, .ref q7, .ref q8, .long 0, .null, .null])), (q1, aI g 25 (fun _ => 0)), (q2, aI g 5 (fun _ => 0)), (q3, aI g 25 (fun _ => 0)), (q4, aI g 5 (fun _ => 0)), (q5, aI g 5 (fun _ => 0)), (q6, aI g 5 (fun _ => 0)), (q7, aI g 5 (fun _ => 0)), (q8, aL g 5 (fun _ => 0)), (q9, aL g 5 (fun _ => 0))]) rfl ?_
  refine ct_putF (l' := [(a, .inr (6, [.int 0, .ref q1, .ref q2, .int (nI 1), .int (nI 1), .ref q3, .ref q4, .int 0, .ref q5, .ref q6, .long 0, .long 0, .ref q7, .ref q8, .long 0, .ref q9, .null])), (q1, aI g 25 (fun _ => 0)), (q2, aI g 5 (fun _ => 0)), (q3, aI g 25 (fun _ => 0)), (q4, aI g 5 (fun _ => 0)), (q5, aI g 5 (fun _ => 0)), (q6, aI g 5 (fun _ => 0)), (q7, aI g 5 (fun _ => 0)), (q8, aL g 5 (fun _ => 0)), (q9, aL g 5 (fun _ => 0))]) kc_6 15 (by decide) k_419 d_M_init_76 0 rfl rfl rfl rfl rfl rfl (Nat.le_of_ble_eq_true rfl) rfl ?_
  refine aw_aload_n d_M_init_79 rfl rfl ?_
  refine aw_iconst (v := nI 5) d_M_init_80 (by decide) ?_
  refine ct_newl d_M_init_81 k_126 hg (by decide) (by decide) (by decide) (fun q10 => ?_)
  refine ct_lst (l' := [(a, .inr (6, [.int 0, .ref q1, .ref q2, .int (nI 1), .int (nI 1), .ref q3, .ref q4, .int 0, .ref q5, .ref q6, .long 0, .long 0, .ref q7, .ref q8, .long 0, .ref q9, .null])), (q1, aI g 25 (fun _ => 0)), (q2, aI g 5 (fun _ => 0)), (q3, aI g 25 (fun _ => 0)), (q4, aI g 5 (fun _ => 0)), (q5, aI g 5 (fun _ => 0)), (q6, aI g 5 (fun _ => 0)), (q7, aI g 5 (fun _ => 0)), (q8, aL g 5 (fun _ => 0)), (q9, aL g 5 (fun _ => 0)), (q10, aL g 5 (fun _ => 0))]) rfl ?_
  refine ct_putF (l' := [(a, .inr (6, [.int 0, .ref q1, .ref q2, .int (nI 1), .int (nI 1), .ref q3, .ref q4, .int 0, .ref q5, .ref q6, .long 0, .long 0, .ref q7, .ref q8, .long 0, .ref q9, .ref q10])), (q1, aI g 25 (fun _ => 0)), (q2, aI g 5 (fun _ => 0)), (q3, aI g 25 (fun _ => 0)), (q4, aI g 5 (fun _ => 0)), (q5, aI g 5 (fun _ => 0)), (q6, aI g 5 (fun _ => 0)), (q7, aI g 5 (fun _ => 0)), (q8, aL g 5 (fun _ => 0)), (q9, aL g 5 (fun _ => 0)), (q10, aL g 5 (fun _ => 0))]) kc_6 16 (by decide) k_420 d_M_init_83 0 rfl rfl rfl rfl rfl rfl (Nat.le_of_ble_eq_true rfl) rfl ?_
  exact aw_vret d_M_init_86 (Nat.le_of_ble_eq_true rfl) (Nat.le_of_ble_eq_true rfl) ⟨rfl, q1, q2, q3, q4, q5, q6, q7, q8, q9, q10, rfl⟩

set_option maxHeartbeats 4000000 in
set_option maxRecDepth 100000 in
theorem m_W_init {g : aw_G} (hg : aw_T g) {w0 : va_W} {a : Nat} : AMet g y_W_init c_W_init 1 none 2 [.ref a] (w0 ++ [(a, .inr (0, [.null, .null, .null, .null, .null, .null]))]) (fun r ws' => r = none ∧ ∃ bG : Nat, ∃ q1G : Nat, ∃ r1G : Nat → Nat, ∃ q2G : Nat, ∃ bS : Nat, ∃ q1S : Nat, ∃ r1S : Nat → Nat, ∃ q2S : Nat, ∃ q3S : Nat, ∃ bC : Nat, ∃ q1C : Nat, ∃ q2C : Nat, ∃ q3C : Nat, ∃ q4C : Nat, ∃ bE : Nat, ∃ q1E : Nat, ∃ r1E : Nat → Nat, ∃ bP : Nat, ∃ q1P : Nat, ∃ q2P : Nat, ∃ q3P : Nat, ∃ r3P : Nat → Nat, ∃ qH : Nat, ws' = w0 ++ [(a, .inr (0, [.ref bG, .ref bS, .ref bC, .ref bE, .ref bP, .ref qH])), (bG, .inr (1, [.int (nI 0), .int (nI 1), .int (nI 1), .ref q1G, .ref q2G])), (q1G, aGI g r1G), ((r1G 0), aI g 5 (fun _ => 0)), ((r1G 1), aI g 5 (fun _ => 0)), ((r1G 2), aI g 5 (fun _ => 0)), ((r1G 3), aI g 5 (fun _ => 0)), ((r1G 4), aI g 5 (fun _ => 0)), (q2G, aI g 5 (fun _ => 0)), (bS, .inr (2, [.int (nI 0), .ref q1S, .ref q2S, .ref q3S])), (q1S, aGI g r1S), ((r1S 0), aI g 5 (fun _ => 0)), ((r1S 1), aI g 5 (fun _ => 0)), ((r1S 2), aI g 5 (fun _ => 0)), ((r1S 3), aI g 5 (fun _ => 0)), ((r1S 4), aI g 5 (fun _ => 0)), (q2S, aI g 5 (fun _ => 0)), (q3S, aI g 5 (fun _ => 0)), (bC, .inr (3, [.int (nI 0), .ref q1C, .ref q2C, .ref q3C, .int (nI 0), .ref q4C])), (q1C, aI g 5 (fun _ => 0)), (q2C, aI g 5 (fun _ => 0)), (q3C, aI g 5 (fun _ => 0)), (q4C, aI g 5 (fun _ => 0)), (bE, .inr (4, [.int (nI 0), .ref q1E])), (q1E, aGL g r1E), ((r1E 0), aL g 5 (fun _ => 0)), ((r1E 1), aL g 5 (fun _ => 0)), ((r1E 2), aL g 5 (fun _ => 0)), ((r1E 3), aL g 5 (fun _ => 0)), ((r1E 4), aL g 5 (fun _ => 0)), (bP, .inr (5, [.ref q1P, .ref q2P, .int (nI 0), .ref q3P])), (q1P, aL g 5 (fun _ => 0)), (q2P, aL g 5 (fun _ => 0)), (q3P, aGL g r3P), ((r3P 0), aL g 5 (fun _ => 0)), ((r3P 1), aL g 5 (fun _ => 0)), ((r3P 2), aL g 5 (fun _ => 0)), ((r3P 3), aL g 5 (fun _ => 0)), ((r3P 4), aL g 5 (fun _ => 0)), (qH, aL g 5 (fun _ => 0))]) 39 191 := by
  refine amet_of (by decide +kernel) (Nat.le_of_ble_eq_true rfl) ?_
  refine aw_sub (lv' := [(0, .ref a)]) [0] rfl ?_
  refine aw_aload_n d_W_init_0 rfl rfl ?_
  refine aw_objInit d_W_init_1 k_13 k_14 k_15 (by decide) (by decide) ?_
  refine aw_aload_n d_W_init_4 rfl rfl ?_
  refine ct_new (fs := [.int 0, .int 0, .int 0, .null, .null]) kc_1 k_16 k_17 k_2 d_W_init_5 (fun j hj => by rcases (show j = 0 ∨ j = 1 ∨ j = 2 ∨ j = 3 ∨ j = 4 by omega) with rfl | rfl | rfl | rfl | rfl <;> rfl) (by decide) (by decide) (fun bG => ?_)
  refine aw_dup d_W_init_8 rfl ?_
  refine ct_w (ws' := (w0 ++ [(a, .inr (0, [.null, .null, .null, .null, .null, .null]))]) ++ [(bG, .inr (1, [.int 0, .int 0, .int 0, .null, .null]))]) (by first | exact List.append_assoc _ _ _ | exact (List.append_assoc _ _ _).symm) ?_
  refine aw_callIN (av := []) (rest := [.ref bG, .ref a]) (m_G_init hg) kd_G_init k_18 k_19 rfl d_W_init_9 rfl ⟨by decide, by decide⟩ (Nat.le_of_ble_eq_true rfl) ⟨by decide, by decide⟩ rfl (fun vG wsG hG => ?_)
  obtain ⟨rfl, q1G, r1G, q2G, rfl⟩ := hG
  refine ct_w (ws' := w0 ++ [(a, .inr (0, [.null, .null, .null, .null, .null, .null])), (bG, .inr (1, [.int (nI 0), .int (nI 1), .int (nI 1), .ref q1G, .ref q2G])), (q1G, aGI g r1G), ((r1G 0), aI g 5 (fun _ => 0)), ((r1G 1), aI g 5 (fun _ => 0)), ((r1G 2), aI g 5 (fun _ => 0)), ((r1G 3), aI g 5 (fun _ => 0)), ((r1G 4), aI g 5 (fun _ => 0)), (q2G, aI g 5 (fun _ => 0))]) (by first | exact List.append_assoc _ _ _ | exact (List.append_assoc _ _ _).symm) ?_
  refine ct_putF (l' := [(a, .inr (0, [.ref bG, .null, .null, .null, .null, .null])), (bG, .inr (1, [.int (nI 0), .int (nI 1), .int (nI 1), .ref q1G, .ref q2G])), (q1G, aGI g r1G), ((r1G 0), aI g 5 (fun _ => 0)), ((r1G 1), aI g 5 (fun _ => 0)), ((r1G 2), aI g 5 (fun _ => 0)), ((r1G 3), aI g 5 (fun _ => 0)), ((r1G 4), aI g 5 (fun _ => 0)), (q2G, aI g 5 (fun _ => 0))]) kc_0 0 (by decide) k_147 d_W_init_12 0 rfl rfl rfl rfl rfl rfl (Nat.le_of_ble_eq_true rfl) rfl ?_
  refine aw_aload_n d_W_init_15 rfl rfl ?_
  refine ct_new (fs := [.int 0, .null, .null, .null]) kc_2 k_53 k_54 k_3 d_W_init_16 (fun j hj => by rcases (show j = 0 ∨ j = 1 ∨ j = 2 ∨ j = 3 by omega) with rfl | rfl | rfl | rfl <;> rfl) (by decide) (by decide) (fun bS => ?_)
  refine aw_dup d_W_init_19 rfl ?_
  refine ct_w (ws' := (w0 ++ [(a, .inr (0, [.ref bG, .null, .null, .null, .null, .null])), (bG, .inr (1, [.int (nI 0), .int (nI 1), .int (nI 1), .ref q1G, .ref q2G])), (q1G, aGI g r1G), ((r1G 0), aI g 5 (fun _ => 0)), ((r1G 1), aI g 5 (fun _ => 0)), ((r1G 2), aI g 5 (fun _ => 0)), ((r1G 3), aI g 5 (fun _ => 0)), ((r1G 4), aI g 5 (fun _ => 0)), (q2G, aI g 5 (fun _ => 0))]) ++ [(bS, .inr (2, [.int 0, .null, .null, .null]))]) (by first | exact List.append_assoc _ _ _ | exact (List.append_assoc _ _ _).symm) ?_
  refine aw_callIN (av := []) (rest := [.ref bS, .ref a]) (m_S_init hg) kd_S_init k_55 k_56 rfl d_W_init_20 rfl ⟨by decide, by decide⟩ (Nat.le_of_ble_eq_true rfl) ⟨by decide, by decide⟩ rfl (fun vS wsS hS => ?_)
  obtain ⟨rfl, q1S, r1S, q2S, q3S, rfl⟩ := hS
  refine ct_w (ws' := w0 ++ [(a, .inr (0, [.ref bG, .null, .null, .null, .null, .null])), (bG, .inr (1, [.int (nI 0), .int (nI 1), .int (nI 1), .ref q1G, .ref q2G])), (q1G, aGI g r1G), ((r1G 0), aI g 5 (fun _ => 0)), ((r1G 1), aI g 5 (fun _ => 0)), ((r1G 2), aI g 5 (fun _ => 0)), ((r1G 3), aI g 5 (fun _ => 0)), ((r1G 4), aI g 5 (fun _ => 0)), (q2G, aI g 5 (fun _ => 0)), (bS, .inr (2, [.int (nI 0), .ref q1S, .ref q2S, .ref q3S])), (q1S, aGI g r1S), ((r1S 0), aI g 5 (fun _ => 0)), ((r1S 1), aI g 5 (fun _ => 0)), ((r1S 2), aI g 5 (fun _ => 0)), ((r1S 3), aI g 5 (fun _ => 0)), ((r1S 4), aI g 5 (fun _ => 0)), (q2S, aI g 5 (fun _ => 0)), (q3S, aI g 5 (fun _ => 0))]) (by first | exact List.append_assoc _ _ _ | exact (List.append_assoc _ _ _).symm) ?_
  refine ct_putF (l' := [(a, .inr (0, [.ref bG, .ref bS, .null, .null, .null, .null])), (bG, .inr (1, [.int (nI 0), .int (nI 1), .int (nI 1), .ref q1G, .ref q2G])), (q1G, aGI g r1G), ((r1G 0), aI g 5 (fun _ => 0)), ((r1G 1), aI g 5 (fun _ => 0)), ((r1G 2), aI g 5 (fun _ => 0)), ((r1G 3), aI g 5 (fun _ => 0)), ((r1G 4), aI g 5 (fun _ => 0)), (q2G, aI g 5 (fun _ => 0)), (bS, .inr (2, [.int (nI 0), .ref q1S, .ref q2S, .ref q3S])), (q1S, aGI g r1S), ((r1S 0), aI g 5 (fun _ => 0)), ((r1S 1), aI g 5 (fun _ => 0)), ((r1S 2), aI g 5 (fun _ => 0)), ((r1S 3), aI g 5 (fun _ => 0)), ((r1S 4), aI g 5 (fun _ => 0)), (q2S, aI g 5 (fun _ => 0)), (q3S, aI g 5 (fun _ => 0))]) kc_0 1 (by decide) k_148 d_W_init_23 0 rfl rfl rfl rfl rfl rfl (Nat.le_of_ble_eq_true rfl) rfl ?_
  refine aw_aload_n d_W_init_26 rfl rfl ?_
  refine ct_new (fs := [.int 0, .null, .null, .null, .int 0, .null]) kc_3 k_82 k_83 k_4 d_W_init_27 (fun j hj => by rcases (show j = 0 ∨ j = 1 ∨ j = 2 ∨ j = 3 ∨ j = 4 ∨ j = 5 by omega) with rfl | rfl | rfl | rfl | rfl | rfl <;> rfl) (by decide) (by decide) (fun bC => ?_)
  refine aw_dup d_W_init_30 rfl ?_
  refine ct_w (ws' := (w0 ++ [(a, .inr (0, [.ref bG, .ref bS, .null, .null, .null, .null])), (bG, .inr (1, [.int (nI 0), .int (nI 1), .int (nI 1), .ref q1G, .ref q2G])), (q1G, aGI g r1G), ((r1G 0), aI g 5 (fun _ => 0)), ((r1G 1), aI g 5 (fun _ => 0)), ((r1G 2), aI g 5 (fun _ => 0)), ((r1G 3), aI g 5 (fun _ => 0)), ((r1G 4), aI g 5 (fun _ => 0)), (q2G, aI g 5 (fun _ => 0)), (bS, .inr (2, [.int (nI 0), .ref q1S, .ref q2S, .ref q3S])), (q1S, aGI g r1S), ((r1S 0), aI g 5 (fun _ => 0)), ((r1S 1), aI g 5 (fun _ => 0)), ((r1S 2), aI g 5 (fun _ => 0)), ((r1S 3), aI g 5 (fun _ => 0)), ((r1S 4), aI g 5 (fun _ => 0)), (q2S, aI g 5 (fun _ => 0)), (q3S, aI g 5 (fun _ => 0))]) ++ [(bC, .inr (3, [.int 0, .null, .null, .null, .int 0, .null]))]) (by first | exact List.append_assoc _ _ _ | exact (List.append_assoc _ _ _).symm) ?_
  refine aw_callIN (av := []) (rest := [.ref bC, .ref a]) (m_C_init hg) kd_C_init k_84 k_85 rfl d_W_init_31 rfl ⟨by decide, by decide⟩ (Nat.le_of_ble_eq_true rfl) ⟨by decide, by decide⟩ rfl (fun vC wsC hC => ?_)
  obtain ⟨rfl, q1C, q2C, q3C, q4C, rfl⟩ := hC
  refine ct_w (ws' := w0 ++ [(a, .inr (0, [.ref bG, .ref bS, .null, .null, .null, .null])), (bG, .inr (1, [.int (nI 0), .int (nI 1), .int (nI 1), .ref q1G, .ref q2G])), (q1G, aGI g r1G), ((r1G 0), aI g 5 (fun _ => 0)), ((r1G 1), aI g 5 (fun _ => 0)), ((r1G 2), aI g 5 (fun _ => 0)), ((r1G 3), aI g 5 (fun _ => 0)), ((r1G 4), aI g 5 (fun _ => 0)), (q2G, aI g 5 (fun _ => 0)), (bS, .inr (2, [.int (nI 0), .ref q1S, .ref q2S, .ref q3S])), (q1S, aGI g r1S), ((r1S 0), aI g 5 (fun _ => 0)), ((r1S 1), aI g 5 (fun _ => 0)), ((r1S 2), aI g 5 (fun _ => 0)), ((r1S 3), aI g 5 (fun _ => 0)), ((r1S 4), aI g 5 (fun _ => 0)), (q2S, aI g 5 (fun _ => 0)), (q3S, aI g 5 (fun _ => 0)), (bC, .inr (3, [.int (nI 0), .ref q1C, .ref q2C, .ref q3C, .int (nI 0), .ref q4C])), (q1C, aI g 5 (fun _ => 0)), (q2C, aI g 5 (fun _ => 0)), (q3C, aI g 5 (fun _ => 0)), (q4C, aI g 5 (fun _ => 0))]) (by first | exact List.append_assoc _ _ _ | exact (List.append_assoc _ _ _).symm) ?_
  refine ct_putF (l' := [(a, .inr (0, [.ref bG, .ref bS, .ref bC, .null, .null, .null])), (bG, .inr (1, [.int (nI 0), .int (nI 1), .int (nI 1), .ref q1G, .ref q2G])), (q1G, aGI g r1G), ((r1G 0), aI g 5 (fun _ => 0)), ((r1G 1), aI g 5 (fun _ => 0)), ((r1G 2), aI g 5 (fun _ => 0)), ((r1G 3), aI g 5 (fun _ => 0)), ((r1G 4), aI g 5 (fun _ => 0)), (q2G, aI g 5 (fun _ => 0)), (bS, .inr (2, [.int (nI 0), .ref q1S, .ref q2S, .ref q3S])), (q1S, aGI g r1S), ((r1S 0), aI g 5 (fun _ => 0)), ((r1S 1), aI g 5 (fun _ => 0)), ((r1S 2), aI g 5 (fun _ => 0)), ((r1S 3), aI g 5 (fun _ => 0)), ((r1S 4), aI g 5 (fun _ => 0)), (q2S, aI g 5 (fun _ => 0)), (q3S, aI g 5 (fun _ => 0)), (bC, .inr (3, [.int (nI 0), .ref q1C, .ref q2C, .ref q3C, .int (nI 0), .ref q4C])), (q1C, aI g 5 (fun _ => 0)), (q2C, aI g 5 (fun _ => 0)), (q3C, aI g 5 (fun _ => 0)), (q4C, aI g 5 (fun _ => 0))]) kc_0 2 (by decide) k_149 d_W_init_34 0 rfl rfl rfl rfl rfl rfl (Nat.le_of_ble_eq_true rfl) rfl ?_
  refine aw_aload_n d_W_init_37 rfl rfl ?_
  refine ct_new (fs := [.int 0, .null]) kc_4 k_111 k_112 k_5 d_W_init_38 (fun j hj => by rcases (show j = 0 ∨ j = 1 by omega) with rfl | rfl <;> rfl) (by decide) (by decide) (fun bE => ?_)
  refine aw_dup d_W_init_41 rfl ?_
  refine ct_w (ws' := (w0 ++ [(a, .inr (0, [.ref bG, .ref bS, .ref bC, .null, .null, .null])), (bG, .inr (1, [.int (nI 0), .int (nI 1), .int (nI 1), .ref q1G, .ref q2G])), (q1G, aGI g r1G), ((r1G 0), aI g 5 (fun _ => 0)), ((r1G 1), aI g 5 (fun _ => 0)), ((r1G 2), aI g 5 (fun _ => 0)), ((r1G 3), aI g 5 (fun _ => 0)), ((r1G 4), aI g 5 (fun _ => 0)), (q2G, aI g 5 (fun _ => 0)), (bS, .inr (2, [.int (nI 0), .ref q1S, .ref q2S, .ref q3S])), (q1S, aGI g r1S), ((r1S 0), aI g 5 (fun _ => 0)), ((r1S 1), aI g 5 (fun _ => 0)), ((r1S 2), aI g 5 (fun _ => 0)), ((r1S 3), aI g 5 (fun _ => 0)), ((r1S 4), aI g 5 (fun _ => 0)), (q2S, aI g 5 (fun _ => 0)), (q3S, aI g 5 (fun _ => 0)), (bC, .inr (3, [.int (nI 0), .ref q1C, .ref q2C, .ref q3C, .int (nI 0), .ref q4C])), (q1C, aI g 5 (fun _ => 0)), (q2C, aI g 5 (fun _ => 0)), (q3C, aI g 5 (fun _ => 0)), (q4C, aI g 5 (fun _ => 0))]) ++ [(bE, .inr (4, [.int 0, .null]))]) (by first | exact List.append_assoc _ _ _ | exact (List.append_assoc _ _ _).symm) ?_
  refine aw_callIN (av := []) (rest := [.ref bE, .ref a]) (m_E_init hg) kd_E_init k_113 k_114 rfl d_W_init_42 rfl ⟨by decide, by decide⟩ (Nat.le_of_ble_eq_true rfl) ⟨by decide, by decide⟩ rfl (fun vE wsE hE => ?_)
  obtain ⟨rfl, q1E, r1E, rfl⟩ := hE
  refine ct_w (ws' := w0 ++ [(a, .inr (0, [.ref bG, .ref bS, .ref bC, .null, .null, .null])), (bG, .inr (1, [.int (nI 0), .int (nI 1), .int (nI 1), .ref q1G, .ref q2G])), (q1G, aGI g r1G), ((r1G 0), aI g 5 (fun _ => 0)), ((r1G 1), aI g 5 (fun _ => 0)), ((r1G 2), aI g 5 (fun _ => 0)), ((r1G 3), aI g 5 (fun _ => 0)), ((r1G 4), aI g 5 (fun _ => 0)), (q2G, aI g 5 (fun _ => 0)), (bS, .inr (2, [.int (nI 0), .ref q1S, .ref q2S, .ref q3S])), (q1S, aGI g r1S), ((r1S 0), aI g 5 (fun _ => 0)), ((r1S 1), aI g 5 (fun _ => 0)), ((r1S 2), aI g 5 (fun _ => 0)), ((r1S 3), aI g 5 (fun _ => 0)), ((r1S 4), aI g 5 (fun _ => 0)), (q2S, aI g 5 (fun _ => 0)), (q3S, aI g 5 (fun _ => 0)), (bC, .inr (3, [.int (nI 0), .ref q1C, .ref q2C, .ref q3C, .int (nI 0), .ref q4C])), (q1C, aI g 5 (fun _ => 0)), (q2C, aI g 5 (fun _ => 0)), (q3C, aI g 5 (fun _ => 0)), (q4C, aI g 5 (fun _ => 0)), (bE, .inr (4, [.int (nI 0), .ref q1E])), (q1E, aGL g r1E), ((r1E 0), aL g 5 (fun _ => 0)), ((r1E 1), aL g 5 (fun _ => 0)), ((r1E 2), aL g 5 (fun _ => 0)), ((r1E 3), aL g 5 (fun _ => 0)), ((r1E 4), aL g 5 (fun _ => 0))]) (by first | exact List.append_assoc _ _ _ | exact (List.append_assoc _ _ _).symm) ?_
  refine ct_putF (l' := [(a, .inr (0, [.ref bG, .ref bS, .ref bC, .ref bE, .null, .null])), (bG, .inr (1, [.int (nI 0), .int (nI 1), .int (nI 1), .ref q1G, .ref q2G])), (q1G, aGI g r1G), ((r1G 0), aI g 5 (fun _ => 0)), ((r1G 1), aI g 5 (fun _ => 0)), ((r1G 2), aI g 5 (fun _ => 0)), ((r1G 3), aI g 5 (fun _ => 0)), ((r1G 4), aI g 5 (fun _ => 0)), (q2G, aI g 5 (fun _ => 0)), (bS, .inr (2, [.int (nI 0), .ref q1S, .ref q2S, .ref q3S])), (q1S, aGI g r1S), ((r1S 0), aI g 5 (fun _ => 0)), ((r1S 1), aI g 5 (fun _ => 0)), ((r1S 2), aI g 5 (fun _ => 0)), ((r1S 3), aI g 5 (fun _ => 0)), ((r1S 4), aI g 5 (fun _ => 0)), (q2S, aI g 5 (fun _ => 0)), (q3S, aI g 5 (fun _ => 0)), (bC, .inr (3, [.int (nI 0), .ref q1C, .ref q2C, .ref q3C, .int (nI 0), .ref q4C])), (q1C, aI g 5 (fun _ => 0)), (q2C, aI g 5 (fun _ => 0)), (q3C, aI g 5 (fun _ => 0)), (q4C, aI g 5 (fun _ => 0)), (bE, .inr (4, [.int (nI 0), .ref q1E])), (q1E, aGL g r1E), ((r1E 0), aL g 5 (fun _ => 0)), ((r1E 1), aL g 5 (fun _ => 0)), ((r1E 2), aL g 5 (fun _ => 0)), ((r1E 3), aL g 5 (fun _ => 0)), ((r1E 4), aL g 5 (fun _ => 0))]) kc_0 3 (by decide) k_150 d_W_init_45 0 rfl rfl rfl rfl rfl rfl (Nat.le_of_ble_eq_true rfl) rfl ?_
  refine aw_aload_n d_W_init_48 rfl rfl ?_
  refine ct_new (fs := [.null, .null, .int 0, .null]) kc_5 k_127 k_128 k_6 d_W_init_49 (fun j hj => by rcases (show j = 0 ∨ j = 1 ∨ j = 2 ∨ j = 3 by omega) with rfl | rfl | rfl | rfl <;> rfl) (by decide) (by decide) (fun bP => ?_)
  refine aw_dup d_W_init_52 rfl ?_
  refine ct_w (ws' := (w0 ++ [(a, .inr (0, [.ref bG, .ref bS, .ref bC, .ref bE, .null, .null])), (bG, .inr (1, [.int (nI 0), .int (nI 1), .int (nI 1), .ref q1G, .ref q2G])), (q1G, aGI g r1G), ((r1G 0), aI g 5 (fun _ => 0)), ((r1G 1), aI g 5 (fun _ => 0)), ((r1G 2), aI g 5 (fun _ => 0)), ((r1G 3), aI g 5 (fun _ => 0)), ((r1G 4), aI g 5 (fun _ => 0)), (q2G, aI g 5 (fun _ => 0)), (bS, .inr (2, [.int (nI 0), .ref q1S, .ref q2S, .ref q3S])), (q1S, aGI g r1S), ((r1S 0), aI g 5 (fun _ => 0)), ((r1S 1), aI g 5 (fun _ => 0)), ((r1S 2), aI g 5 (fun _ => 0)), ((r1S 3), aI g 5 (fun _ => 0)), ((r1S 4), aI g 5 (fun _ => 0)), (q2S, aI g 5 (fun _ => 0)), (q3S, aI g 5 (fun _ => 0)), (bC, .inr (3, [.int (nI 0), .ref q1C, .ref q2C, .ref q3C, .int (nI 0), .ref q4C])), (q1C, aI g 5 (fun _ => 0)), (q2C, aI g 5 (fun _ => 0)), (q3C, aI g 5 (fun _ => 0)), (q4C, aI g 5 (fun _ => 0)), (bE, .inr (4, [.int (nI 0), .ref q1E])), (q1E, aGL g r1E), ((r1E 0), aL g 5 (fun _ => 0)), ((r1E 1), aL g 5 (fun _ => 0)), ((r1E 2), aL g 5 (fun _ => 0)), ((r1E 3), aL g 5 (fun _ => 0)), ((r1E 4), aL g 5 (fun _ => 0))]) ++ [(bP, .inr (5, [.null, .null, .int 0, .null]))]) (by first | exact List.append_assoc _ _ _ | exact (List.append_assoc _ _ _).symm) ?_
  refine aw_callIN (av := []) (rest := [.ref bP, .ref a]) (m_P_init hg) kd_P_init k_129 k_130 rfl d_W_init_53 rfl ⟨by decide, by decide⟩ (Nat.le_of_ble_eq_true rfl) ⟨by decide, by decide⟩ rfl (fun vP wsP hP => ?_)
  obtain ⟨rfl, q1P, q2P, q3P, r3P, rfl⟩ := hP
  refine ct_w (ws' := w0 ++ [(a, .inr (0, [.ref bG, .ref bS, .ref bC, .ref bE, .null, .null])), (bG, .inr (1, [.int (nI 0), .int (nI 1), .int (nI 1), .ref q1G, .ref q2G])), (q1G, aGI g r1G), ((r1G 0), aI g 5 (fun _ => 0)), ((r1G 1), aI g 5 (fun _ => 0)), ((r1G 2), aI g 5 (fun _ => 0)), ((r1G 3), aI g 5 (fun _ => 0)), ((r1G 4), aI g 5 (fun _ => 0)), (q2G, aI g 5 (fun _ => 0)), (bS, .inr (2, [.int (nI 0), .ref q1S, .ref q2S, .ref q3S])), (q1S, aGI g r1S), ((r1S 0), aI g 5 (fun _ => 0)), ((r1S 1), aI g 5 (fun _ => 0)), ((r1S 2), aI g 5 (fun _ => 0)), ((r1S 3), aI g 5 (fun _ => 0)), ((r1S 4), aI g 5 (fun _ => 0)), (q2S, aI g 5 (fun _ => 0)), (q3S, aI g 5 (fun _ => 0)), (bC, .inr (3, [.int (nI 0), .ref q1C, .ref q2C, .ref q3C, .int (nI 0), .ref q4C])), (q1C, aI g 5 (fun _ => 0)), (q2C, aI g 5 (fun _ => 0)), (q3C, aI g 5 (fun _ => 0)), (q4C, aI g 5 (fun _ => 0)), (bE, .inr (4, [.int (nI 0), .ref q1E])), (q1E, aGL g r1E), ((r1E 0), aL g 5 (fun _ => 0)), ((r1E 1), aL g 5 (fun _ => 0)), ((r1E 2), aL g 5 (fun _ => 0)), ((r1E 3), aL g 5 (fun _ => 0)), ((r1E 4), aL g 5 (fun _ => 0)), (bP, .inr (5, [.ref q1P, .ref q2P, .int (nI 0), .ref q3P])), (q1P, aL g 5 (fun _ => 0)), (q2P, aL g 5 (fun _ => 0)), (q3P, aGL g r3P), ((r3P 0), aL g 5 (fun _ => 0)), ((r3P 1), aL g 5 (fun _ => 0)), ((r3P 2), aL g 5 (fun _ => 0)), ((r3P 3), aL g 5 (fun _ => 0)), ((r3P 4), aL g 5 (fun _ => 0))]) (by first | exact List.append_assoc _ _ _ | exact (List.append_assoc _ _ _).symm) ?_
  refine ct_putF (l' := [(a, .inr (0, [.ref bG, .ref bS, .ref bC, .ref bE, .ref bP, .null])), (bG, .inr (1, [.int (nI 0), .int (nI 1), .int (nI 1), .ref q1G, .ref q2G])), (q1G, aGI g r1G), ((r1G 0), aI g 5 (fun _ => 0)), ((r1G 1), aI g 5 (fun _ => 0)), ((r1G 2), aI g 5 (fun _ => 0)), ((r1G 3), aI g 5 (fun _ => 0)), ((r1G 4), aI g 5 (fun _ => 0)), (q2G, aI g 5 (fun _ => 0)), (bS, .inr (2, [.int (nI 0), .ref q1S, .ref q2S, .ref q3S])), (q1S, aGI g r1S), ((r1S 0), aI g 5 (fun _ => 0)), ((r1S 1), aI g 5 (fun _ => 0)), ((r1S 2), aI g 5 (fun _ => 0)), ((r1S 3), aI g 5 (fun _ => 0)), ((r1S 4), aI g 5 (fun _ => 0)), (q2S, aI g 5 (fun _ => 0)), (q3S, aI g 5 (fun _ => 0)), (bC, .inr (3, [.int (nI 0), .ref q1C, .ref q2C, .ref q3C, .int (nI 0), .ref q4C])), (q1C, aI g 5 (fun _ => 0)), (q2C, aI g 5 (fun _ => 0)), (q3C, aI g 5 (fun _ => 0)), (q4C, aI g 5 (fun _ => 0)), (bE, .inr (4, [.int (nI 0), .ref q1E])), (q1E, aGL g r1E), ((r1E 0), aL g 5 (fun _ => 0)), ((r1E 1), aL g 5 (fun _ => 0)), ((r1E 2), aL g 5 (fun _ => 0)), ((r1E 3), aL g 5 (fun _ => 0)), ((r1E 4), aL g 5 (fun _ => 0)), (bP, .inr (5, [.ref q1P, .ref q2P, .int (nI 0), .ref q3P])), (q1P, aL g 5 (fun _ => 0)), (q2P, aL g 5 (fun _ => 0)), (q3P, aGL g r3P), ((r3P 0), aL g 5 (fun _ => 0)), ((r3P 1), aL g 5 (fun _ => 0)), ((r3P 2), aL g 5 (fun _ => 0)), ((r3P 3), aL g 5 (fun _ => 0)), ((r3P 4), aL g 5 (fun _ => 0))]) kc_0 4 (by decide) k_151 d_W_init_56 0 rfl rfl rfl rfl rfl rfl (Nat.le_of_ble_eq_true rfl) rfl ?_
  refine aw_aload_n d_W_init_59 rfl rfl ?_
  refine aw_iconst (v := nI 5) d_W_init_60 (by decide) ?_
  refine ct_newl d_W_init_61 k_126 hg (by decide) (by decide) (by decide) (fun qH => ?_)
  refine ct_lst (l' := [(a, .inr (0, [.ref bG, .ref bS, .ref bC, .ref bE, .ref bP, .null])), (bG, .inr (1, [.int (nI 0), .int (nI 1), .int (nI 1), .ref q1G, .ref q2G])), (q1G, aGI g r1G), ((r1G 0), aI g 5 (fun _ => 0)), ((r1G 1), aI g 5 (fun _ => 0)), ((r1G 2), aI g 5 (fun _ => 0)), ((r1G 3), aI g 5 (fun _ => 0)), ((r1G 4), aI g 5 (fun _ => 0)), (q2G, aI g 5 (fun _ => 0)), (bS, .inr (2, [.int (nI 0), .ref q1S, .ref q2S, .ref q3S])), (q1S, aGI g r1S), ((r1S 0), aI g 5 (fun _ => 0)), ((r1S 1), aI g 5 (fun _ => 0)), ((r1S 2), aI g 5 (fun _ => 0)), ((r1S 3), aI g 5 (fun _ => 0)), ((r1S 4), aI g 5 (fun _ => 0)), (q2S, aI g 5 (fun _ => 0)), (q3S, aI g 5 (fun _ => 0)), (bC, .inr (3, [.int (nI 0), .ref q1C, .ref q2C, .ref q3C, .int (nI 0), .ref q4C])), (q1C, aI g 5 (fun _ => 0)), (q2C, aI g 5 (fun _ => 0)), (q3C, aI g 5 (fun _ => 0)), (q4C, aI g 5 (fun _ => 0)), (bE, .inr (4, [.int (nI 0), .ref q1E])), (q1E, aGL g r1E), ((r1E 0), aL g 5 (fun _ => 0)), ((r1E 1), aL g 5 (fun _ => 0)), ((r1E 2), aL g 5 (fun _ => 0)), ((r1E 3), aL g 5 (fun _ => 0)), ((r1E 4), aL g 5 (fun _ => 0)), (bP, .inr (5, [.ref q1P, .ref q2P, .int (nI 0), .ref q3P])), (q1P, aL g 5 (fun _ => 0)), (q2P, aL g 5 (fun _ => 0)), (q3P, aGL g r3P), ((r3P 0), aL g 5 (fun _ => 0)), ((r3P 1), aL g 5 (fun _ => 0)), ((r3P 2), aL g 5 (fun _ => 0)), ((r3P 3), aL g 5 (fun _ => 0)), ((r3P 4), aL g 5 (fun _ => 0)), (qH, aL g 5 (fun _ => 0))]) rfl ?_
  refine ct_putF (l' := [(a, .inr (0, [.ref bG, .ref bS, .ref bC, .ref bE, .ref bP, .ref qH])), (bG, .inr (1, [.int (nI 0), .int (nI 1), .int (nI 1), .ref q1G, .ref q2G])), (q1G, aGI g r1G), ((r1G 0), aI g 5 (fun _ => 0)), ((r1G 1), aI g 5 (fun _ => 0)), ((r1G 2), aI g 5 (fun _ => 0)), ((r1G 3), aI g 5 (fun _ => 0)), ((r1G 4), aI g 5 (fun _ => 0)), (q2G, aI g 5 (fun _ => 0)), (bS, .inr (2, [.int (nI 0), .ref q1S, .ref q2S, .ref q3S])), (q1S, aGI g r1S), ((r1S 0), aI g 5 (fun _ => 0)), ((r1S 1), aI g 5 (fun _ => 0)), ((r1S 2), aI g 5 (fun _ => 0)), ((r1S 3), aI g 5 (fun _ => 0)), ((r1S 4), aI g 5 (fun _ => 0)), (q2S, aI g 5 (fun _ => 0)), (q3S, aI g 5 (fun _ => 0)), (bC, .inr (3, [.int (nI 0), .ref q1C, .ref q2C, .ref q3C, .int (nI 0), .ref q4C])), (q1C, aI g 5 (fun _ => 0)), (q2C, aI g 5 (fun _ => 0)), (q3C, aI g 5 (fun _ => 0)), (q4C, aI g 5 (fun _ => 0)), (bE, .inr (4, [.int (nI 0), .ref q1E])), (q1E, aGL g r1E), ((r1E 0), aL g 5 (fun _ => 0)), ((r1E 1), aL g 5 (fun _ => 0)), ((r1E 2), aL g 5 (fun _ => 0)), ((r1E 3), aL g 5 (fun _ => 0)), ((r1E 4), aL g 5 (fun _ => 0)), (bP, .inr (5, [.ref q1P, .ref q2P, .int (nI 0), .ref q3P])), (q1P, aL g 5 (fun _ => 0)), (q2P, aL g 5 (fun _ => 0)), (q3P, aGL g r3P), ((r3P 0), aL g 5 (fun _ => 0)), ((r3P 1), aL g 5 (fun _ => 0)), ((r3P 2), aL g 5 (fun _ => 0)), ((r3P 3), aL g 5 (fun _ => 0)), ((r3P 4), aL g 5 (fun _ => 0)), (qH, aL g 5 (fun _ => 0))]) kc_0 5 (by decide) k_152 d_W_init_63 0 rfl rfl rfl rfl rfl rfl (Nat.le_of_ble_eq_true rfl) rfl ?_
  exact aw_vret d_W_init_66 (Nat.le_of_ble_eq_true rfl) (Nat.le_of_ble_eq_true rfl) ⟨rfl, bG, q1G, r1G, q2G, bS, q1S, r1S, q2S, q3S, bC, q1C, q2C, q3C, q4C, bE, q1E, r1E, bP, q1P, q2P, q3P, r3P, qH, rfl⟩
