set_option maxHeartbeats 4000000 in
set_option maxRecDepth 100000 in
theorem m_X0_init {l : Launch} {D : va_G} {cI cB cS : ClassId} (o : Nat) : Mc l yX0_init cX0_init 1 1 20 7 41 D cI cB cS [.ref o] [(o, .inr (0, [.null, .null, .null, .null, .null, .null, .null, .int 0, .int 0, .int 0, .int 0, .int 0, .int 0, .int 0]))] (fun w => ∃ q1 q2 q3 q4 q5 q6 q7 : Nat, w = [(o, .inr (0, [.ref q1, .ref q2, .ref q3, .ref q4, .ref q5, .ref q6, .ref q7, .int 0, .int 0, .int 0, .int 0, .int 0, .int 0, .int 0])), ia q1 cI 5 (fun _ => 0), ia q2 cI 5 (fun _ => 0), ia q3 cI 5 (fun _ => 0), ia q4 cI 5 (fun _ => 0), ia q5 cI 5 (fun _ => 0), ia q6 cI 8 (fun _ => 0), ia q7 cI 8 (fun _ => 0)]) := by
  refine Mc.of (by decide) (Nat.le_of_ble_eq_true rfl) ?_
  intro zp ze zs zm zb zt zc zz zA hA C hnm
  refine v_lv0 [(0, .ref o)] rfl ?_
  refine v_aload_n C dX0_init_0 0 rfl ?_
  refine v_objI C oi_X0_3 oi_inst oi_code dX0_init_1 (by decide) ?_
  refine v_aload_n C dX0_init_4 0 rfl ?_
  refine v_iconst C 5 dX0_init_5 (by decide) ?_
  refine v_newI C ao_int 5 dX0_init_6 (by decide) (by decide) (by decide) (by decide) (by decide) (fun q1 => ?_)
  refine v_ws0 [(o, .inr (0, [.null, .null, .null, .null, .null, .null, .null, .int 0, .int 0, .int 0, .int 0, .int 0, .int 0, .int 0])), ia q1 cI 5 (fun _ => 0)] rfl ?_
  refine v_putF C hnm.symm pf_X0_9 [(o, .inr (0, [.ref q1, .null, .null, .null, .null, .null, .null, .int 0, .int 0, .int 0, .int 0, .int 0, .int 0, .int 0])), ia q1 cI 5 (fun _ => 0)] dX0_init_8 0 rfl rfl rfl (by decide) rfl ?_
  refine v_aload_n C dX0_init_11 0 rfl ?_
  refine v_iconst C 5 dX0_init_12 (by decide) ?_
  refine v_newI C ao_int 5 dX0_init_13 (by decide) (by decide) (by decide) (by decide) (by decide) (fun q2 => ?_)
  refine v_ws0 [(o, .inr (0, [.ref q1, .null, .null, .null, .null, .null, .null, .int 0, .int 0, .int 0, .int 0, .int 0, .int 0, .int 0])), ia q1 cI 5 (fun _ => 0), ia q2 cI 5 (fun _ => 0)] rfl ?_
  refine v_putF C hnm.symm pf_X0_15 [(o, .inr (0, [.ref q1, .ref q2, .null, .null, .null, .null, .null, .int 0, .int 0, .int 0, .int 0, .int 0, .int 0, .int 0])), ia q1 cI 5 (fun _ => 0), ia q2 cI 5 (fun _ => 0)] dX0_init_15 0 rfl rfl rfl (by decide) rfl ?_
  refine v_aload_n C dX0_init_18 0 rfl ?_
  refine v_iconst C 5 dX0_init_19 (by decide) ?_
  refine v_newI C ao_int 5 dX0_init_20 (by decide) (by decide) (by decide) (by decide) (by decide) (fun q3 => ?_)
  refine v_ws0 [(o, .inr (0, [.ref q1, .ref q2, .null, .null, .null, .null, .null, .int 0, .int 0, .int 0, .int 0, .int 0, .int 0, .int 0])), ia q1 cI 5 (fun _ => 0), ia q2 cI 5 (fun _ => 0), ia q3 cI 5 (fun _ => 0)] rfl ?_
  refine v_putF C hnm.symm pf_X0_18 [(o, .inr (0, [.ref q1, .ref q2, .ref q3, .null, .null, .null, .null, .int 0, .int 0, .int 0, .int 0, .int 0, .int 0, .int 0])), ia q1 cI 5 (fun _ => 0), ia q2 cI 5 (fun _ => 0), ia q3 cI 5 (fun _ => 0)] dX0_init_22 0 rfl rfl rfl (by decide) rfl ?_
  refine v_aload_n C dX0_init_25 0 rfl ?_
  refine v_iconst C 5 dX0_init_26 (by decide) ?_
  refine v_newI C ao_int 5 dX0_init_27 (by decide) (by decide) (by decide) (by decide) (by decide) (fun q4 => ?_)
  refine v_ws0 [(o, .inr (0, [.ref q1, .ref q2, .ref q3, .null, .null, .null, .null, .int 0, .int 0, .int 0, .int 0, .int 0, .int 0, .int 0])), ia q1 cI 5 (fun _ => 0), ia q2 cI 5 (fun _ => 0), ia q3 cI 5 (fun _ => 0), ia q4 cI 5 (fun _ => 0)] rfl ?_
  refine v_putF C hnm.symm pf_X0_21 [(o, .inr (0, [.ref q1, .ref q2, .ref q3, .ref q4, .null, .null, .null, .int 0, .int 0, .int 0, .int 0, .int 0, .int 0, .int 0])), ia q1 cI 5 (fun _ => 0), ia q2 cI 5 (fun _ => 0), ia q3 cI 5 (fun _ => 0), ia q4 cI 5 (fun _ => 0)] dX0_init_29 0 rfl rfl rfl (by decide) rfl ?_
  refine v_aload_n C dX0_init_32 0 rfl ?_
  refine v_iconst C 5 dX0_init_33 (by decide) ?_
  refine v_newI C ao_int 5 dX0_init_34 (by decide) (by decide) (by decide) (by decide) (by decide) (fun q5 => ?_)
  refine v_ws0 [(o, .inr (0, [.ref q1, .ref q2, .ref q3, .ref q4, .null, .null, .null, .int 0, .int 0, .int 0, .int 0, .int 0, .int 0, .int 0])), ia q1 cI 5 (fun _ => 0), ia q2 cI 5 (fun _ => 0), ia q3 cI 5 (fun _ => 0), ia q4 cI 5 (fun _ => 0), ia q5 cI 5 (fun _ => 0)] rfl ?_
  refine v_putF C hnm.symm pf_X0_24 [(o, .inr (0, [.ref q1, .ref q2, .ref q3, .ref q4, .ref q5, .null, .null, .int 0, .int 0, .int 0, .int 0, .int 0, .int 0, .int 0])), ia q1 cI 5 (fun _ => 0), ia q2 cI 5 (fun _ => 0), ia q3 cI 5 (fun _ => 0), ia q4 cI 5 (fun _ => 0), ia q5 cI 5 (fun _ => 0)] dX0_init_36 0 rfl rfl rfl (by decide) rfl ?_
  refine v_aload_n C dX0_init_39 0 rfl ?_
  refine v_bipush C 8 dX0_init_40 (by decide) ?_
  refine v_newI C ao_int 8 dX0_init_42 (by decide) (by decide) (by decide) (by decide) (by decide) (fun q6 => ?_)
  refine v_ws0 [(o, .inr (0, [.ref q1, .ref q2, .ref q3, .ref q4, .ref q5, .null, .null, .int 0, .int 0, .int 0, .int 0, .int 0, .int 0, .int 0])), ia q1 cI 5 (fun _ => 0), ia q2 cI 5 (fun _ => 0), ia q3 cI 5 (fun _ => 0), ia q4 cI 5 (fun _ => 0), ia q5 cI 5 (fun _ => 0), ia q6 cI 8 (fun _ => 0)] rfl ?_
  refine v_putF C hnm.symm pf_X0_27 [(o, .inr (0, [.ref q1, .ref q2, .ref q3, .ref q4, .ref q5, .ref q6, .null, .int 0, .int 0, .int 0, .int 0, .int 0, .int 0, .int 0])), ia q1 cI 5 (fun _ => 0), ia q2 cI 5 (fun _ => 0), ia q3 cI 5 (fun _ => 0), ia q4 cI 5 (fun _ => 0), ia q5 cI 5 (fun _ => 0), ia q6 cI 8 (fun _ => 0)] dX0_init_44 0 rfl rfl rfl (by decide) rfl ?_
  refine v_aload_n C dX0_init_47 0 rfl ?_
  refine v_bipush C 8 dX0_init_48 (by decide) ?_
  refine v_newI C ao_int 8 dX0_init_50 (by decide) (by decide) (by decide) (by decide) (by decide) (fun q7 => ?_)
  refine v_ws0 [(o, .inr (0, [.ref q1, .ref q2, .ref q3, .ref q4, .ref q5, .ref q6, .null, .int 0, .int 0, .int 0, .int 0, .int 0, .int 0, .int 0])), ia q1 cI 5 (fun _ => 0), ia q2 cI 5 (fun _ => 0), ia q3 cI 5 (fun _ => 0), ia q4 cI 5 (fun _ => 0), ia q5 cI 5 (fun _ => 0), ia q6 cI 8 (fun _ => 0), ia q7 cI 8 (fun _ => 0)] rfl ?_
  refine v_putF C hnm.symm pf_X0_30 [(o, .inr (0, [.ref q1, .ref q2, .ref q3, .ref q4, .ref q5, .ref q6, .ref q7, .int 0, .int 0, .int 0, .int 0, .int 0, .int 0, .int 0])), ia q1 cI 5 (fun _ => 0), ia q2 cI 5 (fun _ => 0), ia q3 cI 5 (fun _ => 0), ia q4 cI 5 (fun _ => 0), ia q5 cI 5 (fun _ => 0), ia q6 cI 8 (fun _ => 0), ia q7 cI 8 (fun _ => 0)] dX0_init_52 0 rfl rfl rfl (by decide) rfl ?_
  exact v_retc C hA dX0_init_55 ⟨q1, q2, q3, q4, q5, q6, q7, rfl⟩
set_option maxHeartbeats 4000000 in
set_option maxRecDepth 100000 in
theorem m_X1_init {l : Launch} {D : va_G} {cI cB cS : ClassId} (o : Nat) : Mc l yX1_init cX1_init 1 1 20 1 60 D cI cB cS [.ref o] [(o, .inr (1, [.null, .int 0, .int 0, .int 0]))] (fun w => ∃ q1 : Nat, w = [(o, .inr (1, [.ref q1, .int 0, .int 0, .int 0])), ia q1 cI 60 (fun _ => 0)]) := by
  refine Mc.of (by decide) (Nat.le_of_ble_eq_true rfl) ?_
  intro zp ze zs zm zb zt zc zz zA hA C hnm
  refine v_lv0 [(0, .ref o)] rfl ?_
  refine v_aload_n C dX1_init_0 0 rfl ?_
  refine v_objI C oi_X1_3 oi_inst oi_code dX1_init_1 (by decide) ?_
  refine v_aload_n C dX1_init_4 0 rfl ?_
  refine v_bipush C 60 dX1_init_5 (by decide) ?_
  refine v_newI C ao_int 60 dX1_init_7 (by decide) (by decide) (by decide) (by decide) (by decide) (fun q1 => ?_)
  refine v_ws0 [(o, .inr (1, [.null, .int 0, .int 0, .int 0])), ia q1 cI 60 (fun _ => 0)] rfl ?_
  refine v_putF C hnm.symm pf_X1_9 [(o, .inr (1, [.ref q1, .int 0, .int 0, .int 0])), ia q1 cI 60 (fun _ => 0)] dX1_init_9 0 rfl rfl rfl (by decide) rfl ?_
  exact v_retc C hA dX1_init_12 ⟨q1, rfl⟩
set_option maxHeartbeats 4000000 in
set_option maxRecDepth 100000 in
theorem m_X3_init {l : Launch} {D : va_G} {cI cB cS : ClassId} (o : Nat) : Mc l yX3_init cX3_init 1 1 20 1 60 D cI cB cS [.ref o] [(o, .inr (3, [.null, .int 0, .int 0]))] (fun w => ∃ q1 : Nat, w = [(o, .inr (3, [.ref q1, .int 0, .int 0])), ia q1 cI 60 (fun _ => 0)]) := by
  refine Mc.of (by decide) (Nat.le_of_ble_eq_true rfl) ?_
  intro zp ze zs zm zb zt zc zz zA hA C hnm
  refine v_lv0 [(0, .ref o)] rfl ?_
  refine v_aload_n C dX3_init_0 0 rfl ?_
  refine v_objI C oi_X3_3 oi_inst oi_code dX3_init_1 (by decide) ?_
  refine v_aload_n C dX3_init_4 0 rfl ?_
  refine v_bipush C 60 dX3_init_5 (by decide) ?_
  refine v_newI C ao_int 60 dX3_init_7 (by decide) (by decide) (by decide) (by decide) (by decide) (fun q1 => ?_)
  refine v_ws0 [(o, .inr (3, [.null, .int 0, .int 0])), ia q1 cI 60 (fun _ => 0)] rfl ?_
  refine v_putF C hnm.symm pf_X3_9 [(o, .inr (3, [.ref q1, .int 0, .int 0])), ia q1 cI 60 (fun _ => 0)] dX3_init_9 0 rfl rfl rfl (by decide) rfl ?_
  exact v_retc C hA dX3_init_12 ⟨q1, rfl⟩
set_option maxHeartbeats 4000000 in
set_option maxRecDepth 100000 in
theorem m_X5_init {l : Launch} {D : va_G} {cI cB cS : ClassId} (o : Nat) : Mc l yX5_init cX5_init 1 1 20 19 350 D cI cB cS [.ref o] [(o, .inr (5, [.int 0, .int 0, .null, .null, .null, .int 0, .int 0, .int 0, .int 0, .null, .null, .null, .null, .null, .null, .null, .int 0, .int 0, .int 0, .int 0, .null, .null, .int 0, .int 0, .null, .null, .null, .int 0, .null, .null, .int 0, .null, .null]))] (fun w => ∃ q1 q2 q3 q4 q5 q6 q7 q8 q9 q10 q11 q12 q13 q14 q15 q16 q17 q18 q19 : Nat, w = [(o, .inr (5, [.int 0, .int 0, .ref q1, .ref q2, .ref q3, .int 0, .int 0, .int 0, .int 0, .ref q4, .ref q5, .ref q6, .ref q7, .ref q8, .ref q9, .ref q10, .int 0, .int 0, .int 0, .int 0, .ref q11, .ref q12, .int 0, .int 0, .ref q13, .ref q14, .ref q15, .int 0, .ref q16, .ref q17, .int 0, .ref q18, .ref q19])), ia q1 cI 4 (upd (upd (upd (upd (fun _ => 0) 0 (-9)) 1 (-9)) 2 (-9)) 3 (-9)), ia q2 cI 4 (fun _ => 0), ia q3 cI 240 (fun _ => 0), ia q4 cI 5 (fun _ => 0), ia q5 cI 5 (fun _ => 0), ia q6 cB 5 (fun _ => 0), ia q7 cB 5 (fun _ => 0), ia q8 cI 5 (fun _ => 0), ia q9 cI 5 (fun _ => 0), ia q10 cI 5 (fun _ => 0), ia q11 cI 10 (fun _ => 0), ia q12 cI 15 (fun _ => 0), ia q13 cI 5 (fun _ => 0), ia q14 cI 6 (fun _ => 0), ia q15 cB 5 (fun _ => 0), ia q16 cI 5 (fun _ => 0), ia q17 cI 5 (fun _ => 0), ia q18 cI 8 (fun _ => 0), ia q19 cI 8 (fun _ => 0)]) := by
  refine Mc.of (by decide) (Nat.le_of_ble_eq_true rfl) ?_
  intro zp ze zs zm zb zt zc zz zA hA C hnm
  refine v_lv0 [(0, .ref o)] rfl ?_
  refine v_aload_n C dX5_init_0 0 rfl ?_
  refine v_objI C oi_X5_1 oi_inst oi_code dX5_init_1 (by decide) ?_
  refine v_aload_n C dX5_init_4 0 rfl ?_
  refine v_iconst C 4 dX5_init_5 (by decide) ?_
  refine v_newI C ao_int 4 dX5_init_6 (by decide) (by decide) (by decide) (by decide) (by decide) (fun q1 => ?_)
  refine v_ws0 [(o, .inr (5, [.int 0, .int 0, .null, .null, .null, .int 0, .int 0, .int 0, .int 0, .null, .null, .null, .null, .null, .null, .null, .int 0, .int 0, .int 0, .int 0, .null, .null, .int 0, .int 0, .null, .null, .null, .int 0, .null, .null, .int 0, .null, .null])), ia q1 cI 4 (fun _ => 0)] rfl ?_
  refine v_dup C dX5_init_8 rfl ?_
  refine v_iconst C 0 dX5_init_9 (by decide) ?_
  refine v_bipush C (-9) dX5_init_10 (by decide) ?_
  refine v_iastN C [(o, .inr (5, [.int 0, .int 0, .null, .null, .null, .int 0, .int 0, .int 0, .int 0, .null, .null, .null, .null, .null, .null, .null, .int 0, .int 0, .int 0, .int 0, .null, .null, .int 0, .int 0, .null, .null, .null, .int 0, .null, .null, .int 0, .null, .null])), ia q1 cI 4 (upd (fun _ => 0) 0 (-9))] dX5_init_12 1 rfl 0 rfl (by decide) (by decide) rfl ?_
  refine v_dup C dX5_init_13 rfl ?_
  refine v_iconst C 1 dX5_init_14 (by decide) ?_
  refine v_bipush C (-9) dX5_init_15 (by decide) ?_
  refine v_iastN C [(o, .inr (5, [.int 0, .int 0, .null, .null, .null, .int 0, .int 0, .int 0, .int 0, .null, .null, .null, .null, .null, .null, .null, .int 0, .int 0, .int 0, .int 0, .null, .null, .int 0, .int 0, .null, .null, .null, .int 0, .null, .null, .int 0, .null, .null])), ia q1 cI 4 (upd (upd (fun _ => 0) 0 (-9)) 1 (-9))] dX5_init_17 1 rfl 1 rfl (by decide) (by decide) rfl ?_
  refine v_dup C dX5_init_18 rfl ?_
  refine v_iconst C 2 dX5_init_19 (by decide) ?_
  refine v_bipush C (-9) dX5_init_20 (by decide) ?_
  refine v_iastN C [(o, .inr (5, [.int 0, .int 0, .null, .null, .null, .int 0, .int 0, .int 0, .int 0, .null, .null, .null, .null, .null, .null, .null, .int 0, .int 0, .int 0, .int 0, .null, .null, .int 0, .int 0, .null, .null, .null, .int 0, .null, .null, .int 0, .null, .null])), ia q1 cI 4 (upd (upd (upd (fun _ => 0) 0 (-9)) 1 (-9)) 2 (-9))] dX5_init_22 1 rfl 2 rfl (by decide) (by decide) rfl ?_
  refine v_dup C dX5_init_23 rfl ?_
  refine v_iconst C 3 dX5_init_24 (by decide) ?_
  refine v_bipush C (-9) dX5_init_25 (by decide) ?_
  refine v_iastN C [(o, .inr (5, [.int 0, .int 0, .null, .null, .null, .int 0, .int 0, .int 0, .int 0, .null, .null, .null, .null, .null, .null, .null, .int 0, .int 0, .int 0, .int 0, .null, .null, .int 0, .int 0, .null, .null, .null, .int 0, .null, .null, .int 0, .null, .null])), ia q1 cI 4 (upd (upd (upd (upd (fun _ => 0) 0 (-9)) 1 (-9)) 2 (-9)) 3 (-9))] dX5_init_27 1 rfl 3 rfl (by decide) (by decide) rfl ?_
  refine v_putF C hnm.symm pf_X5_9 [(o, .inr (5, [.int 0, .int 0, .ref q1, .null, .null, .int 0, .int 0, .int 0, .int 0, .null, .null, .null, .null, .null, .null, .null, .int 0, .int 0, .int 0, .int 0, .null, .null, .int 0, .int 0, .null, .null, .null, .int 0, .null, .null, .int 0, .null, .null])), ia q1 cI 4 (upd (upd (upd (upd (fun _ => 0) 0 (-9)) 1 (-9)) 2 (-9)) 3 (-9))] dX5_init_28 0 rfl rfl rfl (by decide) rfl ?_
  refine v_aload_n C dX5_init_31 0 rfl ?_
  refine v_iconst C 4 dX5_init_32 (by decide) ?_
  refine v_newI C ao_int 4 dX5_init_33 (by decide) (by decide) (by decide) (by decide) (by decide) (fun q2 => ?_)
  refine v_ws0 [(o, .inr (5, [.int 0, .int 0, .ref q1, .null, .null, .int 0, .int 0, .int 0, .int 0, .null, .null, .null, .null, .null, .null, .null, .int 0, .int 0, .int 0, .int 0, .null, .null, .int 0, .int 0, .null, .null, .null, .int 0, .null, .null, .int 0, .null, .null])), ia q1 cI 4 (upd (upd (upd (upd (fun _ => 0) 0 (-9)) 1 (-9)) 2 (-9)) 3 (-9)), ia q2 cI 4 (fun _ => 0)] rfl ?_
  refine v_putF C hnm.symm pf_X5_13 [(o, .inr (5, [.int 0, .int 0, .ref q1, .ref q2, .null, .int 0, .int 0, .int 0, .int 0, .null, .null, .null, .null, .null, .null, .null, .int 0, .int 0, .int 0, .int 0, .null, .null, .int 0, .int 0, .null, .null, .null, .int 0, .null, .null, .int 0, .null, .null])), ia q1 cI 4 (upd (upd (upd (upd (fun _ => 0) 0 (-9)) 1 (-9)) 2 (-9)) 3 (-9)), ia q2 cI 4 (fun _ => 0)] dX5_init_35 0 rfl rfl rfl (by decide) rfl ?_
  refine v_aload_n C dX5_init_38 0 rfl ?_
  refine v_sipush C 240 dX5_init_39 (by decide) ?_
  refine v_newI C ao_int 240 dX5_init_42 (by decide) (by decide) (by decide) (by decide) (by decide) (fun q3 => ?_)
  refine v_ws0 [(o, .inr (5, [.int 0, .int 0, .ref q1, .ref q2, .null, .int 0, .int 0, .int 0, .int 0, .null, .null, .null, .null, .null, .null, .null, .int 0, .int 0, .int 0, .int 0, .null, .null, .int 0, .int 0, .null, .null, .null, .int 0, .null, .null, .int 0, .null, .null])), ia q1 cI 4 (upd (upd (upd (upd (fun _ => 0) 0 (-9)) 1 (-9)) 2 (-9)) 3 (-9)), ia q2 cI 4 (fun _ => 0), ia q3 cI 240 (fun _ => 0)] rfl ?_
  refine v_putF C hnm.symm pf_X5_16 [(o, .inr (5, [.int 0, .int 0, .ref q1, .ref q2, .ref q3, .int 0, .int 0, .int 0, .int 0, .null, .null, .null, .null, .null, .null, .null, .int 0, .int 0, .int 0, .int 0, .null, .null, .int 0, .int 0, .null, .null, .null, .int 0, .null, .null, .int 0, .null, .null])), ia q1 cI 4 (upd (upd (upd (upd (fun _ => 0) 0 (-9)) 1 (-9)) 2 (-9)) 3 (-9)), ia q2 cI 4 (fun _ => 0), ia q3 cI 240 (fun _ => 0)] dX5_init_44 0 rfl rfl rfl (by decide) rfl ?_
  refine v_aload_n C dX5_init_47 0 rfl ?_
  refine v_iconst C 5 dX5_init_48 (by decide) ?_
  refine v_newI C ao_int 5 dX5_init_49 (by decide) (by decide) (by decide) (by decide) (by decide) (fun q4 => ?_)
  refine v_ws0 [(o, .inr (5, [.int 0, .int 0, .ref q1, .ref q2, .ref q3, .int 0, .int 0, .int 0, .int 0, .null, .null, .null, .null, .null, .null, .null, .int 0, .int 0, .int 0, .int 0, .null, .null, .int 0, .int 0, .null, .null, .null, .int 0, .null, .null, .int 0, .null, .null])), ia q1 cI 4 (upd (upd (upd (upd (fun _ => 0) 0 (-9)) 1 (-9)) 2 (-9)) 3 (-9)), ia q2 cI 4 (fun _ => 0), ia q3 cI 240 (fun _ => 0), ia q4 cI 5 (fun _ => 0)] rfl ?_
  refine v_putF C hnm.symm pf_X5_19 [(o, .inr (5, [.int 0, .int 0, .ref q1, .ref q2, .ref q3, .int 0, .int 0, .int 0, .int 0, .ref q4, .null, .null, .null, .null, .null, .null, .int 0, .int 0, .int 0, .int 0, .null, .null, .int 0, .int 0, .null, .null, .null, .int 0, .null, .null, .int 0, .null, .null])), ia q1 cI 4 (upd (upd (upd (upd (fun _ => 0) 0 (-9)) 1 (-9)) 2 (-9)) 3 (-9)), ia q2 cI 4 (fun _ => 0), ia q3 cI 240 (fun _ => 0), ia q4 cI 5 (fun _ => 0)] dX5_init_51 0 rfl rfl rfl (by decide) rfl ?_
  refine v_aload_n C dX5_init_54 0 rfl ?_
  refine v_iconst C 5 dX5_init_55 (by decide) ?_
  refine v_newI C ao_int 5 dX5_init_56 (by decide) (by decide) (by decide) (by decide) (by decide) (fun q5 => ?_)
  refine v_ws0 [(o, .inr (5, [.int 0, .int 0, .ref q1, .ref q2, .ref q3, .int 0, .int 0, .int 0, .int 0, .ref q4, .null, .null, .null, .null, .null, .null, .int 0, .int 0, .int 0, .int 0, .null, .null, .int 0, .int 0, .null, .null, .null, .int 0, .null, .null, .int 0, .null, .null])), ia q1 cI 4 (upd (upd (upd (upd (fun _ => 0) 0 (-9)) 1 (-9)) 2 (-9)) 3 (-9)), ia q2 cI 4 (fun _ => 0), ia q3 cI 240 (fun _ => 0), ia q4 cI 5 (fun _ => 0), ia q5 cI 5 (fun _ => 0)] rfl ?_
  refine v_putF C hnm.symm pf_X5_22 [(o, .inr (5, [.int 0, .int 0, .ref q1, .ref q2, .ref q3, .int 0, .int 0, .int 0, .int 0, .ref q4, .ref q5, .null, .null, .null, .null, .null, .int 0, .int 0, .int 0, .int 0, .null, .null, .int 0, .int 0, .null, .null, .null, .int 0, .null, .null, .int 0, .null, .null])), ia q1 cI 4 (upd (upd (upd (upd (fun _ => 0) 0 (-9)) 1 (-9)) 2 (-9)) 3 (-9)), ia q2 cI 4 (fun _ => 0), ia q3 cI 240 (fun _ => 0), ia q4 cI 5 (fun _ => 0), ia q5 cI 5 (fun _ => 0)] dX5_init_58 0 rfl rfl rfl (by decide) rfl ?_
  refine v_aload_n C dX5_init_61 0 rfl ?_
  refine v_iconst C 5 dX5_init_62 (by decide) ?_
  refine v_newB C ao_bool 5 dX5_init_63 (by decide) (by decide) (by decide) (by decide) (by decide) (fun q6 => ?_)
  refine v_ws0 [(o, .inr (5, [.int 0, .int 0, .ref q1, .ref q2, .ref q3, .int 0, .int 0, .int 0, .int 0, .ref q4, .ref q5, .null, .null, .null, .null, .null, .int 0, .int 0, .int 0, .int 0, .null, .null, .int 0, .int 0, .null, .null, .null, .int 0, .null, .null, .int 0, .null, .null])), ia q1 cI 4 (upd (upd (upd (upd (fun _ => 0) 0 (-9)) 1 (-9)) 2 (-9)) 3 (-9)), ia q2 cI 4 (fun _ => 0), ia q3 cI 240 (fun _ => 0), ia q4 cI 5 (fun _ => 0), ia q5 cI 5 (fun _ => 0), ia q6 cB 5 (fun _ => 0)] rfl ?_
  refine v_putF C hnm.symm pf_X5_25 [(o, .inr (5, [.int 0, .int 0, .ref q1, .ref q2, .ref q3, .int 0, .int 0, .int 0, .int 0, .ref q4, .ref q5, .ref q6, .null, .null, .null, .null, .int 0, .int 0, .int 0, .int 0, .null, .null, .int 0, .int 0, .null, .null, .null, .int 0, .null, .null, .int 0, .null, .null])), ia q1 cI 4 (upd (upd (upd (upd (fun _ => 0) 0 (-9)) 1 (-9)) 2 (-9)) 3 (-9)), ia q2 cI 4 (fun _ => 0), ia q3 cI 240 (fun _ => 0), ia q4 cI 5 (fun _ => 0), ia q5 cI 5 (fun _ => 0), ia q6 cB 5 (fun _ => 0)] dX5_init_65 0 rfl rfl rfl (by decide) rfl ?_
  refine v_aload_n C dX5_init_68 0 rfl ?_
  refine v_iconst C 5 dX5_init_69 (by decide) ?_
  refine v_newB C ao_bool 5 dX5_init_70 (by decide) (by decide) (by decide) (by decide) (by decide) (fun q7 => ?_)
  refine v_ws0 [(o, .inr (5, [.int 0, .int 0, .ref q1, .ref q2, .ref q3, .int 0, .int 0, .int 0, .int 0, .ref q4, .ref q5, .ref q6, .null, .null, .null, .null, .int 0, .int 0, .int 0, .int 0, .null, .null, .int 0, .int 0, .null, .null, .null, .int 0, .null, .null, .int 0, .null, .null])), ia q1 cI 4 (upd (upd (upd (upd (fun _ => 0) 0 (-9)) 1 (-9)) 2 (-9)) 3 (-9)), ia q2 cI 4 (fun _ => 0), ia q3 cI 240 (fun _ => 0), ia q4 cI 5 (fun _ => 0), ia q5 cI 5 (fun _ => 0), ia q6 cB 5 (fun _ => 0), ia q7 cB 5 (fun _ => 0)] rfl ?_
  refine v_putF C hnm.symm pf_X5_29 [(o, .inr (5, [.int 0, .int 0, .ref q1, .ref q2, .ref q3, .int 0, .int 0, .int 0, .int 0, .ref q4, .ref q5, .ref q6, .ref q7, .null, .null, .null, .int 0, .int 0, .int 0, .int 0, .null, .null, .int 0, .int 0, .null, .null, .null, .int 0, .null, .null, .int 0, .null, .null])), ia q1 cI 4 (upd (upd (upd (upd (fun _ => 0) 0 (-9)) 1 (-9)) 2 (-9)) 3 (-9)), ia q2 cI 4 (fun _ => 0), ia q3 cI 240 (fun _ => 0), ia q4 cI 5 (fun _ => 0), ia q5 cI 5 (fun _ => 0), ia q6 cB 5 (fun _ => 0), ia q7 cB 5 (fun _ => 0)] dX5_init_72 0 rfl rfl rfl (by decide) rfl ?_
  refine v_aload_n C dX5_init_75 0 rfl ?_
  refine v_iconst C 5 dX5_init_76 (by decide) ?_
  refine v_newI C ao_int 5 dX5_init_77 (by decide) (by decide) (by decide) (by decide) (by decide) (fun q8 => ?_)
  refine v_ws0 [(o, .inr (5, [.int 0, .int 0, .ref q1, .ref q2, .ref q3, .int 0, .int 0, .int 0, .int 0, .ref q4, .ref q5, .ref q6, .ref q7, .null, .null, .null, .int 0, .int 0, .int 0, .int 0, .null, .null, .int 0, .int 0, .null, .null, .null, .int 0, .null, .null, .int 0, .null, .null])), ia q1 cI 4 (upd (upd (upd (upd (fun _ => 0) 0 (-9)) 1 (-9)) 2 (-9)) 3 (-9)), ia q2 cI 4 (fun _ => 0), ia q3 cI 240 (fun _ => 0), ia q4 cI 5 (fun _ => 0), ia q5 cI 5 (fun _ => 0), ia q6 cB 5 (fun _ => 0), ia q7 cB 5 (fun _ => 0), ia q8 cI 5 (fun _ => 0)] rfl ?_
  refine v_putF C hnm.symm pf_X5_32 [(o, .inr (5, [.int 0, .int 0, .ref q1, .ref q2, .ref q3, .int 0, .int 0, .int 0, .int 0, .ref q4, .ref q5, .ref q6, .ref q7, .ref q8, .null, .null, .int 0, .int 0, .int 0, .int 0, .null, .null, .int 0, .int 0, .null, .null, .null, .int 0, .null, .null, .int 0, .null, .null])), ia q1 cI 4 (upd (upd (upd (upd (fun _ => 0) 0 (-9)) 1 (-9)) 2 (-9)) 3 (-9)), ia q2 cI 4 (fun _ => 0), ia q3 cI 240 (fun _ => 0), ia q4 cI 5 (fun _ => 0), ia q5 cI 5 (fun _ => 0), ia q6 cB 5 (fun _ => 0), ia q7 cB 5 (fun _ => 0), ia q8 cI 5 (fun _ => 0)] dX5_init_79 0 rfl rfl rfl (by decide) rfl ?_
  refine v_aload_n C dX5_init_82 0 rfl ?_
  refine v_iconst C 5 dX5_init_83 (by decide) ?_
  refine v_newI C ao_int 5 dX5_init_84 (by decide) (by decide) (by decide) (by decide) (by decide) (fun q9 => ?_)
  refine v_ws0 [(o, .inr (5, [.int 0, .int 0, .ref q1, .ref q2, .ref q3, .int 0, .int 0, .int 0, .int 0, .ref q4, .ref q5, .ref q6, .ref q7, .ref q8, .null, .null, .int 0, .int 0, .int 0, .int 0, .null, .null, .int 0, .int 0, .null, .null, .null, .int 0, .null, .null, .int 0, .null, .null])), ia q1 cI 4 (upd (upd (upd (upd (fun _ => 0) 0 (-9)) 1 (-9)) 2 (-9)) 3 (-9)), ia q2 cI 4 (fun _ => 0), ia q3 cI 240 (fun _ => 0), ia q4 cI 5 (fun _ => 0), ia q5 cI 5 (fun _ => 0), ia q6 cB 5 (fun _ => 0), ia q7 cB 5 (fun _ => 0), ia q8 cI 5 (fun _ => 0), ia q9 cI 5 (fun _ => 0)] rfl ?_
  refine v_putF C hnm.symm pf_X5_35 [(o, .inr (5, [.int 0, .int 0, .ref q1, .ref q2, .ref q3, .int 0, .int 0, .int 0, .int 0, .ref q4, .ref q5, .ref q6, .ref q7, .ref q8, .ref q9, .null, .int 0, .int 0, .int 0, .int 0, .null, .null, .int 0, .int 0, .null, .null, .null, .int 0, .null, .null, .int 0, .null, .null])), ia q1 cI 4 (upd (upd (upd (upd (fun _ => 0) 0 (-9)) 1 (-9)) 2 (-9)) 3 (-9)), ia q2 cI 4 (fun _ => 0), ia q3 cI 240 (fun _ => 0), ia q4 cI 5 (fun _ => 0), ia q5 cI 5 (fun _ => 0), ia q6 cB 5 (fun _ => 0), ia q7 cB 5 (fun _ => 0), ia q8 cI 5 (fun _ => 0), ia q9 cI 5 (fun _ => 0)] dX5_init_86 0 rfl rfl rfl (by decide) rfl ?_
  refine v_aload_n C dX5_init_89 0 rfl ?_
  refine v_iconst C 5 dX5_init_90 (by decide) ?_
  refine v_newI C ao_int 5 dX5_init_91 (by decide) (by decide) (by decide) (by decide) (by decide) (fun q10 => ?_)
  refine v_ws0 [(o, .inr (5, [.int 0, .int 0, .ref q1, .ref q2, .ref q3, .int 0, .int 0, .int 0, .int 0, .ref q4, .ref q5, .ref q6, .ref q7, .ref q8, .ref q9, .null, .int 0, .int 0, .int 0, .int 0, .null, .null, .int 0, .int 0, .null, .null, .null, .int 0, .null, .null, .int 0, .null, .null])), ia q1 cI 4 (upd (upd (upd (upd (fun _ => 0) 0 (-9)) 1 (-9)) 2 (-9)) 3 (-9)), ia q2 cI 4 (fun _ => 0), ia q3 cI 240 (fun _ => 0), ia q4 cI 5 (fun _ => 0), ia q5 cI 5 (fun _ => 0), ia q6 cB 5 (fun _ => 0), ia q7 cB 5 (fun _ => 0), ia q8 cI 5 (fun _ => 0), ia q9 cI 5 (fun _ => 0), ia q10 cI 5 (fun _ => 0)] rfl ?_
  refine v_putF C hnm.symm pf_X5_38 [(o, .inr (5, [.int 0, .int 0, .ref q1, .ref q2, .ref q3, .int 0, .int 0, .int 0, .int 0, .ref q4, .ref q5, .ref q6, .ref q7, .ref q8, .ref q9, .ref q10, .int 0, .int 0, .int 0, .int 0, .null, .null, .int 0, .int 0, .null, .null, .null, .int 0, .null, .null, .int 0, .null, .null])), ia q1 cI 4 (upd (upd (upd (upd (fun _ => 0) 0 (-9)) 1 (-9)) 2 (-9)) 3 (-9)), ia q2 cI 4 (fun _ => 0), ia q3 cI 240 (fun _ => 0), ia q4 cI 5 (fun _ => 0), ia q5 cI 5 (fun _ => 0), ia q6 cB 5 (fun _ => 0), ia q7 cB 5 (fun _ => 0), ia q8 cI 5 (fun _ => 0), ia q9 cI 5 (fun _ => 0), ia q10 cI 5 (fun _ => 0)] dX5_init_93 0 rfl rfl rfl (by decide) rfl ?_
  refine v_aload_n C dX5_init_96 0 rfl ?_
  refine v_bipush C 10 dX5_init_97 (by decide) ?_
  refine v_newI C ao_int 10 dX5_init_99 (by decide) (by decide) (by decide) (by decide) (by decide) (fun q11 => ?_)
  refine v_ws0 [(o, .inr (5, [.int 0, .int 0, .ref q1, .ref q2, .ref q3, .int 0, .int 0, .int 0, .int 0, .ref q4, .ref q5, .ref q6, .ref q7, .ref q8, .ref q9, .ref q10, .int 0, .int 0, .int 0, .int 0, .null, .null, .int 0, .int 0, .null, .null, .null, .int 0, .null, .null, .int 0, .null, .null])), ia q1 cI 4 (upd (upd (upd (upd (fun _ => 0) 0 (-9)) 1 (-9)) 2 (-9)) 3 (-9)), ia q2 cI 4 (fun _ => 0), ia q3 cI 240 (fun _ => 0), ia q4 cI 5 (fun _ => 0), ia q5 cI 5 (fun _ => 0), ia q6 cB 5 (fun _ => 0), ia q7 cB 5 (fun _ => 0), ia q8 cI 5 (fun _ => 0), ia q9 cI 5 (fun _ => 0), ia q10 cI 5 (fun _ => 0), ia q11 cI 10 (fun _ => 0)] rfl ?_
  refine v_putF C hnm.symm pf_X5_41 [(o, .inr (5, [.int 0, .int 0, .ref q1, .ref q2, .ref q3, .int 0, .int 0, .int 0, .int 0, .ref q4, .ref q5, .ref q6, .ref q7, .ref q8, .ref q9, .ref q10, .int 0, .int 0, .int 0, .int 0, .ref q11, .null, .int 0, .int 0, .null, .null, .null, .int 0, .null, .null, .int 0, .null, .null])), ia q1 cI 4 (upd (upd (upd (upd (fun _ => 0) 0 (-9)) 1 (-9)) 2 (-9)) 3 (-9)), ia q2 cI 4 (fun _ => 0), ia q3 cI 240 (fun _ => 0), ia q4 cI 5 (fun _ => 0), ia q5 cI 5 (fun _ => 0), ia q6 cB 5 (fun _ => 0), ia q7 cB 5 (fun _ => 0), ia q8 cI 5 (fun _ => 0), ia q9 cI 5 (fun _ => 0), ia q10 cI 5 (fun _ => 0), ia q11 cI 10 (fun _ => 0)] dX5_init_101 0 rfl rfl rfl (by decide) rfl ?_
  refine v_aload_n C dX5_init_104 0 rfl ?_
  refine v_bipush C 15 dX5_init_105 (by decide) ?_
  refine v_newI C ao_int 15 dX5_init_107 (by decide) (by decide) (by decide) (by decide) (by decide) (fun q12 => ?_)
  refine v_ws0 [(o, .inr (5, [.int 0, .int 0, .ref q1, .ref q2, .ref q3, .int 0, .int 0, .int 0, .int 0, .ref q4, .ref q5, .ref q6, .ref q7, .ref q8, .ref q9, .ref q10, .int 0, .int 0, .int 0, .int 0, .ref q11, .null, .int 0, .int 0, .null, .null, .null, .int 0, .null, .null, .int 0, .null, .null])), ia q1 cI 4 (upd (upd (upd (upd (fun _ => 0) 0 (-9)) 1 (-9)) 2 (-9)) 3 (-9)), ia q2 cI 4 (fun _ => 0), ia q3 cI 240 (fun _ => 0), ia q4 cI 5 (fun _ => 0), ia q5 cI 5 (fun _ => 0), ia q6 cB 5 (fun _ => 0), ia q7 cB 5 (fun _ => 0), ia q8 cI 5 (fun _ => 0), ia q9 cI 5 (fun _ => 0), ia q10 cI 5 (fun _ => 0), ia q11 cI 10 (fun _ => 0), ia q12 cI 15 (fun _ => 0)] rfl ?_
  refine v_putF C hnm.symm pf_X5_44 [(o, .inr (5, [.int 0, .int 0, .ref q1, .ref q2, .ref q3, .int 0, .int 0, .int 0, .int 0, .ref q4, .ref q5, .ref q6, .ref q7, .ref q8, .ref q9, .ref q10, .int 0, .int 0, .int 0, .int 0, .ref q11, .ref q12, .int 0, .int 0, .null, .null, .null, .int 0, .null, .null, .int 0, .null, .null])), ia q1 cI 4 (upd (upd (upd (upd (fun _ => 0) 0 (-9)) 1 (-9)) 2 (-9)) 3 (-9)), ia q2 cI 4 (fun _ => 0), ia q3 cI 240 (fun _ => 0), ia q4 cI 5 (fun _ => 0), ia q5 cI 5 (fun _ => 0), ia q6 cB 5 (fun _ => 0), ia q7 cB 5 (fun _ => 0), ia q8 cI 5 (fun _ => 0), ia q9 cI 5 (fun _ => 0), ia q10 cI 5 (fun _ => 0), ia q11 cI 10 (fun _ => 0), ia q12 cI 15 (fun _ => 0)] dX5_init_109 0 rfl rfl rfl (by decide) rfl ?_
  refine v_aload_n C dX5_init_112 0 rfl ?_
  refine v_iconst C 5 dX5_init_113 (by decide) ?_
  refine v_newI C ao_int 5 dX5_init_114 (by decide) (by decide) (by decide) (by decide) (by decide) (fun q13 => ?_)
  refine v_ws0 [(o, .inr (5, [.int 0, .int 0, .ref q1, .ref q2, .ref q3, .int 0, .int 0, .int 0, .int 0, .ref q4, .ref q5, .ref q6, .ref q7, .ref q8, .ref q9, .ref q10, .int 0, .int 0, .int 0, .int 0, .ref q11, .ref q12, .int 0, .int 0, .null, .null, .null, .int 0, .null, .null, .int 0, .null, .null])), ia q1 cI 4 (upd (upd (upd (upd (fun _ => 0) 0 (-9)) 1 (-9)) 2 (-9)) 3 (-9)), ia q2 cI 4 (fun _ => 0), ia q3 cI 240 (fun _ => 0), ia q4 cI 5 (fun _ => 0), ia q5 cI 5 (fun _ => 0), ia q6 cB 5 (fun _ => 0), ia q7 cB 5 (fun _ => 0), ia q8 cI 5 (fun _ => 0), ia q9 cI 5 (fun _ => 0), ia q10 cI 5 (fun _ => 0), ia q11 cI 10 (fun _ => 0), ia q12 cI 15 (fun _ => 0), ia q13 cI 5 (fun _ => 0)] rfl ?_
  refine v_putF C hnm.symm pf_X5_47 [(o, .inr (5, [.int 0, .int 0, .ref q1, .ref q2, .ref q3, .int 0, .int 0, .int 0, .int 0, .ref q4, .ref q5, .ref q6, .ref q7, .ref q8, .ref q9, .ref q10, .int 0, .int 0, .int 0, .int 0, .ref q11, .ref q12, .int 0, .int 0, .ref q13, .null, .null, .int 0, .null, .null, .int 0, .null, .null])), ia q1 cI 4 (upd (upd (upd (upd (fun _ => 0) 0 (-9)) 1 (-9)) 2 (-9)) 3 (-9)), ia q2 cI 4 (fun _ => 0), ia q3 cI 240 (fun _ => 0), ia q4 cI 5 (fun _ => 0), ia q5 cI 5 (fun _ => 0), ia q6 cB 5 (fun _ => 0), ia q7 cB 5 (fun _ => 0), ia q8 cI 5 (fun _ => 0), ia q9 cI 5 (fun _ => 0), ia q10 cI 5 (fun _ => 0), ia q11 cI 10 (fun _ => 0), ia q12 cI 15 (fun _ => 0), ia q13 cI 5 (fun _ => 0)] dX5_init_116 0 rfl rfl rfl (by decide) rfl ?_
  refine v_aload_n C dX5_init_119 0 rfl ?_
  refine v_bipush C 6 dX5_init_120 (by decide) ?_
  refine v_newI C ao_int 6 dX5_init_122 (by decide) (by decide) (by decide) (by decide) (by decide) (fun q14 => ?_)
  refine v_ws0 [(o, .inr (5, [.int 0, .int 0, .ref q1, .ref q2, .ref q3, .int 0, .int 0, .int 0, .int 0, .ref q4, .ref q5, .ref q6, .ref q7, .ref q8, .ref q9, .ref q10, .int 0, .int 0, .int 0, .int 0, .ref q11, .ref q12, .int 0, .int 0, .ref q13, .null, .null, .int 0, .null, .null, .int 0, .null, .null])), ia q1 cI 4 (upd (upd (upd (upd (fun _ => 0) 0 (-9)) 1 (-9)) 2 (-9)) 3 (-9)), ia q2 cI 4 (fun _ => 0), ia q3 cI 240 (fun _ => 0), ia q4 cI 5 (fun _ => 0), ia q5 cI 5 (fun _ => 0), ia q6 cB 5 (fun _ => 0), ia q7 cB 5 (fun _ => 0), ia q8 cI 5 (fun _ => 0), ia q9 cI 5 (fun _ => 0), ia q10 cI 5 (fun _ => 0), ia q11 cI 10 (fun _ => 0), ia q12 cI 15 (fun _ => 0), ia q13 cI 5 (fun _ => 0), ia q14 cI 6 (fun _ => 0)] rfl ?_
  refine v_putF C hnm.symm pf_X5_50 [(o, .inr (5, [.int 0, .int 0, .ref q1, .ref q2, .ref q3, .int 0, .int 0, .int 0, .int 0, .ref q4, .ref q5, .ref q6, .ref q7, .ref q8, .ref q9, .ref q10, .int 0, .int 0, .int 0, .int 0, .ref q11, .ref q12, .int 0, .int 0, .ref q13, .ref q14, .null, .int 0, .null, .null, .int 0, .null, .null])), ia q1 cI 4 (upd (upd (upd (upd (fun _ => 0) 0 (-9)) 1 (-9)) 2 (-9)) 3 (-9)), ia q2 cI 4 (fun _ => 0), ia q3 cI 240 (fun _ => 0), ia q4 cI 5 (fun _ => 0), ia q5 cI 5 (fun _ => 0), ia q6 cB 5 (fun _ => 0), ia q7 cB 5 (fun _ => 0), ia q8 cI 5 (fun _ => 0), ia q9 cI 5 (fun _ => 0), ia q10 cI 5 (fun _ => 0), ia q11 cI 10 (fun _ => 0), ia q12 cI 15 (fun _ => 0), ia q13 cI 5 (fun _ => 0), ia q14 cI 6 (fun _ => 0)] dX5_init_124 0 rfl rfl rfl (by decide) rfl ?_
  refine v_aload_n C dX5_init_127 0 rfl ?_
  refine v_iconst C 5 dX5_init_128 (by decide) ?_
  refine v_newB C ao_bool 5 dX5_init_129 (by decide) (by decide) (by decide) (by decide) (by decide) (fun q15 => ?_)
  refine v_ws0 [(o, .inr (5, [.int 0, .int 0, .ref q1, .ref q2, .ref q3, .int 0, .int 0, .int 0, .int 0, .ref q4, .ref q5, .ref q6, .ref q7, .ref q8, .ref q9, .ref q10, .int 0, .int 0, .int 0, .int 0, .ref q11, .ref q12, .int 0, .int 0, .ref q13, .ref q14, .null, .int 0, .null, .null, .int 0, .null, .null])), ia q1 cI 4 (upd (upd (upd (upd (fun _ => 0) 0 (-9)) 1 (-9)) 2 (-9)) 3 (-9)), ia q2 cI 4 (fun _ => 0), ia q3 cI 240 (fun _ => 0), ia q4 cI 5 (fun _ => 0), ia q5 cI 5 (fun _ => 0), ia q6 cB 5 (fun _ => 0), ia q7 cB 5 (fun _ => 0), ia q8 cI 5 (fun _ => 0), ia q9 cI 5 (fun _ => 0), ia q10 cI 5 (fun _ => 0), ia q11 cI 10 (fun _ => 0), ia q12 cI 15 (fun _ => 0), ia q13 cI 5 (fun _ => 0), ia q14 cI 6 (fun _ => 0), ia q15 cB 5 (fun _ => 0)] rfl ?_
  refine v_putF C hnm.symm pf_X5_53 [(o, .inr (5, [.int 0, .int 0, .ref q1, .ref q2, .ref q3, .int 0, .int 0, .int 0, .int 0, .ref q4, .ref q5, .ref q6, .ref q7, .ref q8, .ref q9, .ref q10, .int 0, .int 0, .int 0, .int 0, .ref q11, .ref q12, .int 0, .int 0, .ref q13, .ref q14, .ref q15, .int 0, .null, .null, .int 0, .null, .null])), ia q1 cI 4 (upd (upd (upd (upd (fun _ => 0) 0 (-9)) 1 (-9)) 2 (-9)) 3 (-9)), ia q2 cI 4 (fun _ => 0), ia q3 cI 240 (fun _ => 0), ia q4 cI 5 (fun _ => 0), ia q5 cI 5 (fun _ => 0), ia q6 cB 5 (fun _ => 0), ia q7 cB 5 (fun _ => 0), ia q8 cI 5 (fun _ => 0), ia q9 cI 5 (fun _ => 0), ia q10 cI 5 (fun _ => 0), ia q11 cI 10 (fun _ => 0), ia q12 cI 15 (fun _ => 0), ia q13 cI 5 (fun _ => 0), ia q14 cI 6 (fun _ => 0), ia q15 cB 5 (fun _ => 0)] dX5_init_131 0 rfl rfl rfl (by decide) rfl ?_
  refine v_aload_n C dX5_init_134 0 rfl ?_
  refine v_iconst C 5 dX5_init_135 (by decide) ?_
  refine v_newI C ao_int 5 dX5_init_136 (by decide) (by decide) (by decide) (by decide) (by decide) (fun q16 => ?_)
  refine v_ws0 [(o, .inr (5, [.int 0, .int 0, .ref q1, .ref q2, .ref q3, .int 0, .int 0, .int 0, .int 0, .ref q4, .ref q5, .ref q6, .ref q7, .ref q8, .ref q9, .ref q10, .int 0, .int 0, .int 0, .int 0, .ref q11, .ref q12, .int 0, .int 0, .ref q13, .ref q14, .ref q15, .int 0, .null, .null, .int 0, .null, .null])), ia q1 cI 4 (upd (upd (upd (upd (fun _ => 0) 0 (-9)) 1 (-9)) 2 (-9)) 3 (-9)), ia q2 cI 4 (fun _ => 0), ia q3 cI 240 (fun _ => 0), ia q4 cI 5 (fun _ => 0), ia q5 cI 5 (fun _ => 0), ia q6 cB 5 (fun _ => 0), ia q7 cB 5 (fun _ => 0), ia q8 cI 5 (fun _ => 0), ia q9 cI 5 (fun _ => 0), ia q10 cI 5 (fun _ => 0), ia q11 cI 10 (fun _ => 0), ia q12 cI 15 (fun _ => 0), ia q13 cI 5 (fun _ => 0), ia q14 cI 6 (fun _ => 0), ia q15 cB 5 (fun _ => 0), ia q16 cI 5 (fun _ => 0)] rfl ?_
  refine v_putF C hnm.symm pf_X5_56 [(o, .inr (5, [.int 0, .int 0, .ref q1, .ref q2, .ref q3, .int 0, .int 0, .int 0, .int 0, .ref q4, .ref q5, .ref q6, .ref q7, .ref q8, .ref q9, .ref q10, .int 0, .int 0, .int 0, .int 0, .ref q11, .ref q12, .int 0, .int 0, .ref q13, .ref q14, .ref q15, .int 0, .ref q16, .null, .int 0, .null, .null])), ia q1 cI 4 (upd (upd (upd (upd (fun _ => 0) 0 (-9)) 1 (-9)) 2 (-9)) 3 (-9)), ia q2 cI 4 (fun _ => 0), ia q3 cI 240 (fun _ => 0), ia q4 cI 5 (fun _ => 0), ia q5 cI 5 (fun _ => 0), ia q6 cB 5 (fun _ => 0), ia q7 cB 5 (fun _ => 0), ia q8 cI 5 (fun _ => 0), ia q9 cI 5 (fun _ => 0), ia q10 cI 5 (fun _ => 0), ia q11 cI 10 (fun _ => 0), ia q12 cI 15 (fun _ => 0), ia q13 cI 5 (fun _ => 0), ia q14 cI 6 (fun _ => 0), ia q15 cB 5 (fun _ => 0), ia q16 cI 5 (fun _ => 0)] dX5_init_138 0 rfl rfl rfl (by decide) rfl ?_
  refine v_aload_n C dX5_init_141 0 rfl ?_
  refine v_iconst C 5 dX5_init_142 (by decide) ?_
  refine v_newI C ao_int 5 dX5_init_143 (by decide) (by decide) (by decide) (by decide) (by decide) (fun q17 => ?_)
  refine v_ws0 [(o, .inr (5, [.int 0, .int 0, .ref q1, .ref q2, .ref q3, .int 0, .int 0, .int 0, .int 0, .ref q4, .ref q5, .ref q6, .ref q7, .ref q8, .ref q9, .ref q10, .int 0, .int 0, .int 0, .int 0, .ref q11, .ref q12, .int 0, .int 0, .ref q13, .ref q14, .ref q15, .int 0, .ref q16, .null, .int 0, .null, .null])), ia q1 cI 4 (upd (upd (upd (upd (fun _ => 0) 0 (-9)) 1 (-9)) 2 (-9)) 3 (-9)), ia q2 cI 4 (fun _ => 0), ia q3 cI 240 (fun _ => 0), ia q4 cI 5 (fun _ => 0), ia q5 cI 5 (fun _ => 0), ia q6 cB 5 (fun _ => 0), ia q7 cB 5 (fun _ => 0), ia q8 cI 5 (fun _ => 0), ia q9 cI 5 (fun _ => 0), ia q10 cI 5 (fun _ => 0), ia q11 cI 10 (fun _ => 0), ia q12 cI 15 (fun _ => 0), ia q13 cI 5 (fun _ => 0), ia q14 cI 6 (fun _ => 0), ia q15 cB 5 (fun _ => 0), ia q16 cI 5 (fun _ => 0), ia q17 cI 5 (fun _ => 0)] rfl ?_
  refine v_putF C hnm.symm pf_X5_59 [(o, .inr (5, [.int 0, .int 0, .ref q1, .ref q2, .ref q3, .int 0, .int 0, .int 0, .int 0, .ref q4, .ref q5, .ref q6, .ref q7, .ref q8, .ref q9, .ref q10, .int 0, .int 0, .int 0, .int 0, .ref q11, .ref q12, .int 0, .int 0, .ref q13, .ref q14, .ref q15, .int 0, .ref q16, .ref q17, .int 0, .null, .null])), ia q1 cI 4 (upd (upd (upd (upd (fun _ => 0) 0 (-9)) 1 (-9)) 2 (-9)) 3 (-9)), ia q2 cI 4 (fun _ => 0), ia q3 cI 240 (fun _ => 0), ia q4 cI 5 (fun _ => 0), ia q5 cI 5 (fun _ => 0), ia q6 cB 5 (fun _ => 0), ia q7 cB 5 (fun _ => 0), ia q8 cI 5 (fun _ => 0), ia q9 cI 5 (fun _ => 0), ia q10 cI 5 (fun _ => 0), ia q11 cI 10 (fun _ => 0), ia q12 cI 15 (fun _ => 0), ia q13 cI 5 (fun _ => 0), ia q14 cI 6 (fun _ => 0), ia q15 cB 5 (fun _ => 0), ia q16 cI 5 (fun _ => 0), ia q17 cI 5 (fun _ => 0)] dX5_init_145 0 rfl rfl rfl (by decide) rfl ?_
  refine v_aload_n C dX5_init_148 0 rfl ?_
  refine v_bipush C 8 dX5_init_149 (by decide) ?_
  refine v_newI C ao_int 8 dX5_init_151 (by decide) (by decide) (by decide) (by decide) (by decide) (fun q18 => ?_)
  refine v_ws0 [(o, .inr (5, [.int 0, .int 0, .ref q1, .ref q2, .ref q3, .int 0, .int 0, .int 0, .int 0, .ref q4, .ref q5, .ref q6, .ref q7, .ref q8, .ref q9, .ref q10, .int 0, .int 0, .int 0, .int 0, .ref q11, .ref q12, .int 0, .int 0, .ref q13, .ref q14, .ref q15, .int 0, .ref q16, .ref q17, .int 0, .null, .null])), ia q1 cI 4 (upd (upd (upd (upd (fun _ => 0) 0 (-9)) 1 (-9)) 2 (-9)) 3 (-9)), ia q2 cI 4 (fun _ => 0), ia q3 cI 240 (fun _ => 0), ia q4 cI 5 (fun _ => 0), ia q5 cI 5 (fun _ => 0), ia q6 cB 5 (fun _ => 0), ia q7 cB 5 (fun _ => 0), ia q8 cI 5 (fun _ => 0), ia q9 cI 5 (fun _ => 0), ia q10 cI 5 (fun _ => 0), ia q11 cI 10 (fun _ => 0), ia q12 cI 15 (fun _ => 0), ia q13 cI 5 (fun _ => 0), ia q14 cI 6 (fun _ => 0), ia q15 cB 5 (fun _ => 0), ia q16 cI 5 (fun _ => 0), ia q17 cI 5 (fun _ => 0), ia q18 cI 8 (fun _ => 0)] rfl ?_
  refine v_putF C hnm.symm pf_X5_62 [(o, .inr (5, [.int 0, .int 0, .ref q1, .ref q2, .ref q3, .int 0, .int 0, .int 0, .int 0, .ref q4, .ref q5, .ref q6, .ref q7, .ref q8, .ref q9, .ref q10, .int 0, .int 0, .int 0, .int 0, .ref q11, .ref q12, .int 0, .int 0, .ref q13, .ref q14, .ref q15, .int 0, .ref q16, .ref q17, .int 0, .ref q18, .null])), ia q1 cI 4 (upd (upd (upd (upd (fun _ => 0) 0 (-9)) 1 (-9)) 2 (-9)) 3 (-9)), ia q2 cI 4 (fun _ => 0), ia q3 cI 240 (fun _ => 0), ia q4 cI 5 (fun _ => 0), ia q5 cI 5 (fun _ => 0), ia q6 cB 5 (fun _ => 0), ia q7 cB 5 (fun _ => 0), ia q8 cI 5 (fun _ => 0), ia q9 cI 5 (fun _ => 0), ia q10 cI 5 (fun _ => 0), ia q11 cI 10 (fun _ => 0), ia q12 cI 15 (fun _ => 0), ia q13 cI 5 (fun _ => 0), ia q14 cI 6 (fun _ => 0), ia q15 cB 5 (fun _ => 0), ia q16 cI 5 (fun _ => 0), ia q17 cI 5 (fun _ => 0), ia q18 cI 8 (fun _ => 0)] dX5_init_153 0 rfl rfl rfl (by decide) rfl ?_
  refine v_aload_n C dX5_init_156 0 rfl ?_
  refine v_bipush C 8 dX5_init_157 (by decide) ?_
  refine v_newI C ao_int 8 dX5_init_159 (by decide) (by decide) (by decide) (by decide) (by decide) (fun q19 => ?_)
  refine v_ws0 [(o, .inr (5, [.int 0, .int 0, .ref q1, .ref q2, .ref q3, .int 0, .int 0, .int 0, .int 0, .ref q4, .ref q5, .ref q6, .ref q7, .ref q8, .ref q9, .ref q10, .int 0, .int 0, .int 0, .int 0, .ref q11, .ref q12, .int 0, .int 0, .ref q13, .ref q14, .ref q15, .int 0, .ref q16, .ref q17, .int 0, .ref q18, .null])), ia q1 cI 4 (upd (upd (upd (upd (fun _ => 0) 0 (-9)) 1 (-9)) 2 (-9)) 3 (-9)), ia q2 cI 4 (fun _ => 0), ia q3 cI 240 (fun _ => 0), ia q4 cI 5 (fun _ => 0), ia q5 cI 5 (fun _ => 0), ia q6 cB 5 (fun _ => 0), ia q7 cB 5 (fun _ => 0), ia q8 cI 5 (fun _ => 0), ia q9 cI 5 (fun _ => 0), ia q10 cI 5 (fun _ => 0), ia q11 cI 10 (fun _ => 0), ia q12 cI 15 (fun _ => 0), ia q13 cI 5 (fun _ => 0), ia q14 cI 6 (fun _ => 0), ia q15 cB 5 (fun _ => 0), ia q16 cI 5 (fun _ => 0), ia q17 cI 5 (fun _ => 0), ia q18 cI 8 (fun _ => 0), ia q19 cI 8 (fun _ => 0)] rfl ?_
  refine v_putF C hnm.symm pf_X5_65 [(o, .inr (5, [.int 0, .int 0, .ref q1, .ref q2, .ref q3, .int 0, .int 0, .int 0, .int 0, .ref q4, .ref q5, .ref q6, .ref q7, .ref q8, .ref q9, .ref q10, .int 0, .int 0, .int 0, .int 0, .ref q11, .ref q12, .int 0, .int 0, .ref q13, .ref q14, .ref q15, .int 0, .ref q16, .ref q17, .int 0, .ref q18, .ref q19])), ia q1 cI 4 (upd (upd (upd (upd (fun _ => 0) 0 (-9)) 1 (-9)) 2 (-9)) 3 (-9)), ia q2 cI 4 (fun _ => 0), ia q3 cI 240 (fun _ => 0), ia q4 cI 5 (fun _ => 0), ia q5 cI 5 (fun _ => 0), ia q6 cB 5 (fun _ => 0), ia q7 cB 5 (fun _ => 0), ia q8 cI 5 (fun _ => 0), ia q9 cI 5 (fun _ => 0), ia q10 cI 5 (fun _ => 0), ia q11 cI 10 (fun _ => 0), ia q12 cI 15 (fun _ => 0), ia q13 cI 5 (fun _ => 0), ia q14 cI 6 (fun _ => 0), ia q15 cB 5 (fun _ => 0), ia q16 cI 5 (fun _ => 0), ia q17 cI 5 (fun _ => 0), ia q18 cI 8 (fun _ => 0), ia q19 cI 8 (fun _ => 0)] dX5_init_161 0 rfl rfl rfl (by decide) rfl ?_
  exact v_retc C hA dX5_init_164 ⟨q1, q2, q3, q4, q5, q6, q7, q8, q9, q10, q11, q12, q13, q14, q15, q16, q17, q18, q19, rfl⟩
set_option maxHeartbeats 4000000 in
set_option maxRecDepth 100000 in
theorem m_X2_init {l : Launch} {D : va_G} {cI cB cS : ClassId} (o : Nat) (k : Nat) : Mc l yX2_init cX2_init 2 1 20 4 21 D cI cB cS [.ref o, .ref k] [(o, .inr (2, [.null, .null, .null, .null, .null, .int 0, .int 0, .int 0, .int 0, .int 0, .int 0, .int 0]))] (fun w => ∃ q1 q2 q3 q4 : Nat, w = [(o, .inr (2, [.ref k, .ref q1, .ref q2, .ref q3, .ref q4, .int 0, .int 0, .int 0, .int 0, .int 0, .int 0, .int 0])), ia q1 cI 5 (fun _ => 0), ia q2 cI 5 (fun _ => 0), ia q3 cI 5 (fun _ => 0), ia q4 cI 6 (fun _ => 0)]) := by
  refine Mc.of (by decide) (Nat.le_of_ble_eq_true rfl) ?_
  intro zp ze zs zm zb zt zc zz zA hA C hnm
  refine v_lv0 [(0, .ref o), (1, .ref k)] rfl ?_
  refine v_aload_n C dX2_init_0 0 rfl ?_
  refine v_objI C oi_X2_3 oi_inst oi_code dX2_init_1 (by decide) ?_
  refine v_aload_n C dX2_init_4 0 rfl ?_
  refine v_iconst C 5 dX2_init_5 (by decide) ?_
  refine v_newI C ao_int 5 dX2_init_6 (by decide) (by decide) (by decide) (by decide) (by decide) (fun q1 => ?_)
  refine v_ws0 [(o, .inr (2, [.null, .null, .null, .null, .null, .int 0, .int 0, .int 0, .int 0, .int 0, .int 0, .int 0])), ia q1 cI 5 (fun _ => 0)] rfl ?_
  refine v_putF C hnm.symm pf_X2_9 [(o, .inr (2, [.null, .ref q1, .null, .null, .null, .int 0, .int 0, .int 0, .int 0, .int 0, .int 0, .int 0])), ia q1 cI 5 (fun _ => 0)] dX2_init_8 0 rfl rfl rfl (by decide) rfl ?_
  refine v_aload_n C dX2_init_11 0 rfl ?_
  refine v_iconst C 5 dX2_init_12 (by decide) ?_
  refine v_newI C ao_int 5 dX2_init_13 (by decide) (by decide) (by decide) (by decide) (by decide) (fun q2 => ?_)
  refine v_ws0 [(o, .inr (2, [.null, .ref q1, .null, .null, .null, .int 0, .int 0, .int 0, .int 0, .int 0, .int 0, .int 0])), ia q1 cI 5 (fun _ => 0), ia q2 cI 5 (fun _ => 0)] rfl ?_
  refine v_putF C hnm.symm pf_X2_15 [(o, .inr (2, [.null, .ref q1, .ref q2, .null, .null, .int 0, .int 0, .int 0, .int 0, .int 0, .int 0, .int 0])), ia q1 cI 5 (fun _ => 0), ia q2 cI 5 (fun _ => 0)] dX2_init_15 0 rfl rfl rfl (by decide) rfl ?_
  refine v_aload_n C dX2_init_18 0 rfl ?_
  refine v_iconst C 5 dX2_init_19 (by decide) ?_
  refine v_newI C ao_int 5 dX2_init_20 (by decide) (by decide) (by decide) (by decide) (by decide) (fun q3 => ?_)
  refine v_ws0 [(o, .inr (2, [.null, .ref q1, .ref q2, .null, .null, .int 0, .int 0, .int 0, .int 0, .int 0, .int 0, .int 0])), ia q1 cI 5 (fun _ => 0), ia q2 cI 5 (fun _ => 0), ia q3 cI 5 (fun _ => 0)] rfl ?_
  refine v_putF C hnm.symm pf_X2_18 [(o, .inr (2, [.null, .ref q1, .ref q2, .ref q3, .null, .int 0, .int 0, .int 0, .int 0, .int 0, .int 0, .int 0])), ia q1 cI 5 (fun _ => 0), ia q2 cI 5 (fun _ => 0), ia q3 cI 5 (fun _ => 0)] dX2_init_22 0 rfl rfl rfl (by decide) rfl ?_
  refine v_aload_n C dX2_init_25 0 rfl ?_
  refine v_bipush C 6 dX2_init_26 (by decide) ?_
  refine v_newI C ao_int 6 dX2_init_28 (by decide) (by decide) (by decide) (by decide) (by decide) (fun q4 => ?_)
  refine v_ws0 [(o, .inr (2, [.null, .ref q1, .ref q2, .ref q3, .null, .int 0, .int 0, .int 0, .int 0, .int 0, .int 0, .int 0])), ia q1 cI 5 (fun _ => 0), ia q2 cI 5 (fun _ => 0), ia q3 cI 5 (fun _ => 0), ia q4 cI 6 (fun _ => 0)] rfl ?_
  refine v_putF C hnm.symm pf_X2_21 [(o, .inr (2, [.null, .ref q1, .ref q2, .ref q3, .ref q4, .int 0, .int 0, .int 0, .int 0, .int 0, .int 0, .int 0])), ia q1 cI 5 (fun _ => 0), ia q2 cI 5 (fun _ => 0), ia q3 cI 5 (fun _ => 0), ia q4 cI 6 (fun _ => 0)] dX2_init_30 0 rfl rfl rfl (by decide) rfl ?_
  refine v_aload_n C dX2_init_33 0 rfl ?_
  refine v_aload_n C dX2_init_34 1 rfl ?_
  refine v_putF C hnm.symm pf_X2_24 [(o, .inr (2, [.ref k, .ref q1, .ref q2, .ref q3, .ref q4, .int 0, .int 0, .int 0, .int 0, .int 0, .int 0, .int 0])), ia q1 cI 5 (fun _ => 0), ia q2 cI 5 (fun _ => 0), ia q3 cI 5 (fun _ => 0), ia q4 cI 6 (fun _ => 0)] dX2_init_35 0 rfl rfl rfl (by decide) rfl ?_
  exact v_retc C hA dX2_init_38 ⟨q1, q2, q3, q4, rfl⟩
