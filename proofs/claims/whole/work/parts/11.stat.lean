set_option maxHeartbeats 4000000 in
set_option maxRecDepth 100000 in
theorem m_J6_bitCount_0f7a4 {l : Launch} {D : va_G} {cI cB cS : ClassId} (x : Int32) : Ri l yJ6_bitCount_0f7a4 cJ6_bitCount_0f7a4 1 (some .int) 0 0 D cI cB cS [.int x] [] (fun r => r = bcF x) := by
  refine Ri.of (by decide) (Nat.le_of_ble_eq_true rfl) ?_
  intro zp ze zs zm zb zt zc C
  refine v_lv0 [(0, .int x)] rfl ?_
  refine v_iload_n C dJ6_bitCount_0f7a4_0 0 rfl ?_
  refine v_iload_n C dJ6_bitCount_0f7a4_1 0 rfl ?_
  refine v_iconst C 1 dJ6_bitCount_0f7a4_2 (by decide) ?_
  refine v_iushr C dJ6_bitCount_0f7a4_3 ?_
  refine v_ldcw C k_J6_265 dJ6_bitCount_0f7a4_4 ?_
  refine v_iand C dJ6_bitCount_0f7a4_7 ?_
  refine v_isub C dJ6_bitCount_0f7a4_8 ?_
  refine v_topi (fun y1 ey1 => ?_)
  refine v_istore_n C [(0, .int y1)] dJ6_bitCount_0f7a4_9 (by decide) rfl ?_
  refine v_iload_n C dJ6_bitCount_0f7a4_10 0 rfl ?_
  refine v_ldcw C k_J6_266 dJ6_bitCount_0f7a4_11 ?_
  refine v_iand C dJ6_bitCount_0f7a4_14 ?_
  refine v_iload_n C dJ6_bitCount_0f7a4_15 0 rfl ?_
  refine v_iconst C 2 dJ6_bitCount_0f7a4_16 (by decide) ?_
  refine v_iushr C dJ6_bitCount_0f7a4_17 ?_
  refine v_ldcw C k_J6_266 dJ6_bitCount_0f7a4_18 ?_
  refine v_iand C dJ6_bitCount_0f7a4_21 ?_
  refine v_iadd C dJ6_bitCount_0f7a4_22 ?_
  refine v_topi (fun y2 ey2 => ?_)
  refine v_istore_n C [(0, .int y2)] dJ6_bitCount_0f7a4_23 (by decide) rfl ?_
  refine v_iload_n C dJ6_bitCount_0f7a4_24 0 rfl ?_
  refine v_iload_n C dJ6_bitCount_0f7a4_25 0 rfl ?_
  refine v_iconst C 4 dJ6_bitCount_0f7a4_26 (by decide) ?_
  refine v_iushr C dJ6_bitCount_0f7a4_27 ?_
  refine v_iadd C dJ6_bitCount_0f7a4_28 ?_
  refine v_ldcw C k_J6_267 dJ6_bitCount_0f7a4_29 ?_
  refine v_iand C dJ6_bitCount_0f7a4_32 ?_
  refine v_topi (fun y3 ey3 => ?_)
  refine v_istore_n C [(0, .int y3)] dJ6_bitCount_0f7a4_33 (by decide) rfl ?_
  refine v_iload_n C dJ6_bitCount_0f7a4_34 0 rfl ?_
  refine v_iload_n C dJ6_bitCount_0f7a4_35 0 rfl ?_
  refine v_bipush C 8 dJ6_bitCount_0f7a4_36 (by decide) ?_
  refine v_iushr C dJ6_bitCount_0f7a4_38 ?_
  refine v_iadd C dJ6_bitCount_0f7a4_39 ?_
  refine v_topi (fun y4 ey4 => ?_)
  refine v_istore_n C [(0, .int y4)] dJ6_bitCount_0f7a4_40 (by decide) rfl ?_
  refine v_iload_n C dJ6_bitCount_0f7a4_41 0 rfl ?_
  refine v_iload_n C dJ6_bitCount_0f7a4_42 0 rfl ?_
  refine v_bipush C 16 dJ6_bitCount_0f7a4_43 (by decide) ?_
  refine v_iushr C dJ6_bitCount_0f7a4_45 ?_
  refine v_iadd C dJ6_bitCount_0f7a4_46 ?_
  refine v_topi (fun y5 ey5 => ?_)
  refine v_istore_n C [(0, .int y5)] dJ6_bitCount_0f7a4_47 (by decide) rfl ?_
  refine v_iload_n C dJ6_bitCount_0f7a4_48 0 rfl ?_
  refine v_bipush C 63 dJ6_bitCount_0f7a4_49 (by decide) ?_
  refine v_iand C dJ6_bitCount_0f7a4_51 ?_
  exact v_retRi C dJ6_bitCount_0f7a4_52 rfl (by subst_vars; rfl)
def flF (x : Int32) (f : Nat → Int32) (i : Nat) : Nat → Int32 := fun j => if j < i then x else f j
theorem flF_s (x : Int32) (f : Nat → Int32) (i : Nat) : upd (flF x f i) i x = flF x f (i + 1) := by
  funext j
  unfold upd flF
  by_cases h : j = i
  · subst h; simp
  · by_cases h2 : j < i
    · simp [h, h2, Nat.lt_succ_of_lt h2]
    · have : ¬ j < i + 1 := by omega
      simp [h, h2, this]
theorem flF_0 (x : Int32) (f : Nat → Int32) : flF x f 0 = f := by funext j; simp [flF]
set_option maxHeartbeats 4000000 in
set_option maxRecDepth 100000 in
theorem m_J7_fill_53178 {l : Launch} {D : va_G} {cI cB cS : ClassId} (q n : Nat) (q_ : Nat → Int32) (x : Int32) (hn : n < 2 ^ 31) : Mv l yJ7_fill_53178 cJ7_fill_53178 4 0 0 D cI cB cS [.ref (q), .int x] [ia (q) cI n q_] (fun w => w = [ia (q) cI n (fun _ => x)]) := by
  refine Mv.of (by decide) (Nat.le_of_ble_eq_true rfl) ?_
  intro zp ze zs zm zb zt zc zz zA hA C hnm
  refine v_lv0 [(0, .ref (q)), (1, .int x)] rfl ?_
  refine v_iconst C 0 dJ7_fill_53178_0 (by decide) ?_
  refine v_istore_n C [(2, .int 0), (0, .ref (q)), (1, .int x)] dJ7_fill_53178_1 (by decide) rfl ?_
  refine v_aload_n C dJ7_fill_53178_2 1 rfl ?_
  refine v_alen C dJ7_fill_53178_3 0 rfl ?_
  refine v_istore_n C [(3, .int (nI n)), (2, .int 0), (0, .ref (q)), (1, .int x)] dJ7_fill_53178_4 (by decide) rfl ?_
  rw [← flF_0 x q_]
  have lp : ∀ (n_2 : Nat) (i : Nat), n - i < n_2 → (i ≤ n) → V zp l ze (rmOf 0 0) zs zm [.ref (q), .int x].toArray zb zt zc D (IM zA zs) (QMv zb [.ref (q), .int x].toArray zs D cI cB cS [ia (q) cI n q_] zz (fun w => w = [ia (q) cI n (fun _ => x)])) 0 0 4 [ia (q) cI n (flF x q_ i)] [(2, .int (nI i)), (3, .int (nI n)), (0, .ref (q)), (1, .int x)] 5 [] := by
    intro n_2
    induction n_2 with
    | zero => intro i b1; exact absurd b1 (by omega)
    | succ n_2 ihn_2 =>
      intro i b1 hi
      refine v_iload_n C dJ7_fill_53178_5 0 rfl ?_
      refine v_iload_n C dJ7_fill_53178_6 1 rfl ?_
      refine v_icmp_ge C 20 dJ7_fill_53178_7 (by decide) (fun c3 => ?_) (fun c3 => ?_)
      · have nc3 : n ≤ i := nI_leD c3 (by omega)
        refine v_ext [ia (q) cI n (fun _ => x)] 0 (fun _ => x) rfl (fun j hj => (by have t : j < i := (by omega); simp [flF, t])) rfl ?_
        exact v_retv C hA dJ7_fill_53178_20 (rfl)
      · have nc3 : i < n := nI_ltD c3 (by omega)
        refine v_aload_n C dJ7_fill_53178_10 2 rfl ?_
        refine v_iload_n C dJ7_fill_53178_11 0 rfl ?_
        refine v_iload_n C dJ7_fill_53178_12 3 rfl ?_
        refine v_iastN C [ia (q) cI n (upd (flF x q_ i) i x)] dJ7_fill_53178_13 0 rfl i rfl (by omega) (by omega) rfl ?_
        refine v_ws0 [ia (q) cI n (flF x q_ (i + 1))] (by rw [flF_s]) ?_
        refine v_iinc C (nI (i + 1)) [(2, .int (nI (i + 1))), (3, .int (nI n)), (0, .ref (q)), (1, .int x)] 0 dJ7_fill_53178_14 rfl (nI_inc _) (by decide) rfl ?_
        refine v_goto C 5 dJ7_fill_53178_17 (by decide) ?_
        exact ihn_2 (i + 1) (by omega) (by omega)
  refine v_loc [1, 0, 2, 3] (lv' := [(2, .int 0), (3, .int (nI n)), (0, .ref (q)), (1, .int x)]) rfl ?_
  exact lp (n - 0 + 1) 0 (by omega) (by omega)
set_option maxHeartbeats 4000000 in
set_option maxRecDepth 100000 in
theorem m_X4_bitOf {l : Launch} {D : va_G} {cI cB cS : ClassId} (m j : Nat) (hm : m < 64) (hj : j < 6) : Ri l yX4_bitOf cX4_bitOf 2 (some .int) 0 0 D cI cB cS [.int (nI m), .int (nI j)] [] (fun r => r = bI (m.testBit j = true)) := by
  refine Ri.of (by decide) (Nat.le_of_ble_eq_true rfl) ?_
  intro zp ze zs zm zb zt zc C
  refine v_lv0 [(0, .int (nI m)), (1, .int (nI j))] rfl ?_
  refine v_iload_n C dX4_bitOf_0 0 rfl ?_
  refine v_iload_n C dX4_bitOf_1 1 rfl ?_
  refine v_ishr C dX4_bitOf_2 ?_
  refine v_iconst C 1 dX4_bitOf_3 (by decide) ?_
  refine v_iand C dX4_bitOf_4 ?_
  exact v_retRi C dX4_bitOf_5 rfl (by rw [raw_bit m hm j hj]; rfl)
set_option maxHeartbeats 4000000 in
set_option maxRecDepth 100000 in
theorem m_X4_withBit {l : Launch} {D : va_G} {cI cB cS : ClassId} (m j : Nat) (is : Int32) (hm : m < 64) (hj : j < 6) : Ri l yX4_withBit cX4_withBit 3 (some .int) 0 0 D cI cB cS [.int (nI m), .int (nI j), .int is] [] (fun r => r = nI (wbN m j is)) := by
  refine Ri.of (by decide) (Nat.le_of_ble_eq_true rfl) ?_
  intro zp ze zs zm zb zt zc C
  refine v_lv0 [(0, .int (nI m)), (1, .int (nI j)), (2, .int is)] rfl ?_
  refine v_iload_n C dX4_withBit_0 2 rfl ?_
  refine v_if_eq C 12 dX4_withBit_1 (by decide) (fun c1 => ?_) (fun c1 => ?_)
  · refine v_iload_n C dX4_withBit_12 0 rfl ?_
    refine v_iconst C 1 dX4_withBit_13 (by decide) ?_
    refine v_iload_n C dX4_withBit_14 1 rfl ?_
    refine v_ishl C dX4_withBit_15 ?_
    refine v_iconst C (-1) dX4_withBit_16 (by decide) ?_
    refine v_ixor C dX4_withBit_17 ?_
    refine v_iand C dX4_withBit_18 ?_
    exact v_retRi C dX4_withBit_19 rfl (by simp only [wbN]; first | (rw [raw_set m hm j hj, if_neg (by assumption)]) | (rw [raw_clr m hm j hj, if_pos (by assumption)]))
  · refine v_iload_n C dX4_withBit_4 0 rfl ?_
    refine v_iconst C 1 dX4_withBit_5 (by decide) ?_
    refine v_iload_n C dX4_withBit_6 1 rfl ?_
    refine v_ishl C dX4_withBit_7 ?_
    refine v_ior C dX4_withBit_8 ?_
    refine v_goto C 19 dX4_withBit_9 (by decide) ?_
    exact v_retRi C dX4_withBit_19 rfl (by simp only [wbN]; first | (rw [raw_set m hm j hj, if_neg (by assumption)]) | (rw [raw_clr m hm j hj, if_pos (by assumption)]))
set_option maxHeartbeats 4000000 in
set_option maxRecDepth 100000 in
theorem m_X4_hasFewer {l : Launch} {D : va_G} {cI cB cS : ClassId} (x : Int32) (y : Int32) : Ri l yX4_hasFewer cX4_hasFewer 2 (some .boolean) 1 20 D cI cB cS [.int x, .int y] [] (fun r => r = bI (¬ bcF y ≤ bcF x)) := by
  refine Ri.of (by decide) (Nat.le_of_ble_eq_true rfl) ?_
  intro zp ze zs zm zb zt zc C
  refine v_lv0 [(0, .int x), (1, .int y)] rfl ?_
  refine v_iload_n C dX4_hasFewer_0 0 rfl ?_
  refine v_callSi C l_X4_230 (m_J6_bitCount_0f7a4 x) (by decide) dX4_hasFewer_1 [] rfl rfl (rest := []) rfl (Nat.le_of_ble_eq_true rfl) (by decide) (fun r1 h2 => ?_)
  subst h2
  refine v_iload_n C dX4_hasFewer_4 1 rfl ?_
  refine v_callSi C l_X4_230 (m_J6_bitCount_0f7a4 y) (by decide) dX4_hasFewer_5 [] rfl rfl (rest := [.int (bcF x)]) rfl (Nat.le_of_ble_eq_true rfl) (by decide) (fun r3 h4 => ?_)
  subst h4
  refine v_icmp_ge C 15 dX4_hasFewer_8 (by decide) (fun c5 => ?_) (fun c5 => ?_)
  · refine v_iconst C 0 dX4_hasFewer_15 (by decide) ?_
    exact v_retRi C dX4_hasFewer_16 rfl (by simp [bI, *])
  · refine v_iconst C 1 dX4_hasFewer_11 (by decide) ?_
    refine v_goto C 16 dX4_hasFewer_12 (by decide) ?_
    exact v_retRi C dX4_hasFewer_16 rfl (by simp [bI, *])
