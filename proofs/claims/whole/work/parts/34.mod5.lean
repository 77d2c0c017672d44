theorem x01 {x : Int32} (h : ¬ x < 0 ∧ x ≤ 1) (h0 : ¬ x = 0) : x = 1 := by
  obtain ⟨k, hk, rfl⟩ := ix_le (n := 1) (by omega) h.1 h.2
  have : k ≠ 0 := fun q => h0 (by rw [q]; rfl)
  rw [show k = 1 by omega]
  rfl
set_option maxHeartbeats 4000000 in
set_option maxRecDepth 100000 in
theorem m_X5_worth {l : Launch} {D : va_G} {cI cB cS : ClassId} (b : Nat → Nat) (nj nc wl s0 st nr : Nat) (dn : Nat → Nat) (n_fa : Int32) (n_tr : Int32) (n_mi : Int32) (n_at : Int32) (n_rm : Int32) (n_rj : Int32) (n_rc : Int32) (n_nw : Int32) (n_ov : Int32) (n_rl : Int32) (n_kd : Nat → Int32) (n_ag : Nat → Int32) (n_hS : Nat → Int32) (n_iS : Nat → Int32) (n_iE : Nat → Int32) (n_de : Nat → Int32) (n_fr : Nat → Int32) (n_ho : Nat → Int32) (n_vd : Nat → Int32) (n_rw : Nat → Int32) (n_we : Nat → Int32) (j : Int32) (hnj : nj ≤ 5) (hnc : nc ≤ 5) (hwl : wl < 64) (hs0 : s0 < 2 ^ nj) (hst2 : st < 2 ^ nj) (hp5 : 2 ^ nj ≤ 32) (hnr : nr ≤ 8) (hhS : ∀ j, j < nj → n_hS j = bA s0 j) (hiS : ∀ j, j < nj → n_iS j = bA st j) (hde : ∀ c, c < nc → n_de c = nI (dn c) ∧ dn c < 6) : Mi l yX5_worth cX5_worth 5 (some .int) 6 133 D cI cB cS [.ref (b 0), .int j] [oN b n_fa n_tr n_mi (nI nj) (nI nc) (nI wl) n_at n_rm n_rj n_rc n_nw n_ov n_rl (nI nr), ia (b 9) cI 5 n_kd, ia (b 10) cI 5 n_ag, ia (b 11) cB 5 n_hS, ia (b 12) cB 5 n_iS, ia (b 26) cB 5 n_iE, ia (b 13) cI 5 n_de, ia (b 14) cI 5 n_fr, ia (b 24) cI 5 n_ho, ia (b 25) cI 6 n_vd, ia (b 28) cI 5 n_rw, ia (b 15) cI 5 n_we] (fun r w => ∃ (nw' : Int32) (ov' : Int32) (ho' : Nat → Int32) (vd' : Nat → Int32) (iE' : Nat → Int32) (rl' : Int32) (rw' : Nat → Int32), r = woF nj (fun yx => (sitS nj n_kd n_ag yx wl dn n_fr n_we n_mi s0 (fun p => p) nc).2.2.2.2.1) st j ∧ w = [oN b n_fa n_tr n_mi (nI nj) (nI nc) (nI wl) n_at n_rm n_rj n_rc nw' ov' rl' (nI nr), ia (b 9) cI 5 n_kd, ia (b 10) cI 5 n_ag, ia (b 11) cB 5 n_hS, ia (b 12) cB 5 n_iS, ia (b 26) cB 5 iE', ia (b 13) cI 5 n_de, ia (b 14) cI 5 n_fr, ia (b 24) cI 5 ho', ia (b 25) cI 6 vd', ia (b 28) cI 5 rw', ia (b 15) cI 5 n_we]) := by
  refine Mi.of (by decide) (Nat.le_of_ble_eq_true rfl) ?_
  intro zp ze zs zm zb zt zc zz zA hA C hnm
  refine v_lv0 [(0, .ref (b 0)), (1, .int j)] rfl ?_
  refine v_aload_n C dX5_worth_0 0 rfl ?_
  refine v_iload_n C dX5_worth_1 1 rfl ?_
  refine v_callRi C l_X5_140 (m_X5_isJuror b n_fa n_tr n_mi (nI nj) (nI nc) (nI wl) n_at n_rm n_rj n_rc n_nw n_ov n_rl (nI nr) j) (by decide) dX5_worth_2 [0] rfl 0 rfl rfl rfl (rest := []) rfl (Nat.le_of_ble_eq_true rfl) (by decide) (fun r1 h2 => ?_)
  subst h2
  by_cases c3 : ¬ j < 0 ∧ ¬ (nI nj) ≤ j
  · refine v_eqi 1 (bI_t c3) ?_
    obtain ⟨jN, hjN, rfl⟩ := ix_of' (by omega) c3
    have zjN : (nI jN).toNatClampNeg = jN := nI_clamp (by omega)
    refine v_if_ne C 10 dX5_worth_5 (by decide) (fun _ => ?_) (fun h => absurd h (by decide))
    refine v_aload_n C dX5_worth_10 0 rfl ?_
    refine v_callMi C l_X5_211 (m_X5_byNumbers b wl nj nc s0 st dn n_fa n_tr n_mi n_at n_rm n_rj n_rc n_nw n_ov n_rl (nI nr) n_kd n_ag n_hS n_iS n_iE n_de n_fr n_ho n_vd n_rw n_we (by assumption) (by assumption) (by assumption) (by assumption) (by assumption) (by assumption)) (by decide) dX5_worth_11 [0, 1, 2, 3, 4, 5, 6, 7, 8, 9, 10, 11] [] (wr := []) (by decide) rfl rfl (by decide) (by decide) 0 rfl rfl rfl (rest := []) rfl (Nat.le_of_ble_eq_true rfl) (by decide) (fun r6 w4 h5 => ?_)
    obtain ⟨nw_7, ov_8, ho_9, vd_10, iE_11, rl_12, rw_13, rfl, rfl, hb14⟩ := h5
    refine v_ws0 [oN b n_fa n_tr n_mi (nI nj) (nI nc) (nI wl) n_at n_rm n_rj n_rc nw_7 ov_8 rl_12 (nI nr), ia (b 9) cI 5 n_kd, ia (b 10) cI 5 n_ag, ia (b 11) cB 5 n_hS, ia (b 12) cB 5 n_iS, ia (b 26) cB 5 iE_11, ia (b 13) cI 5 n_de, ia (b 14) cI 5 n_fr, ia (b 24) cI 5 ho_9, ia (b 25) cI 6 vd_10, ia (b 28) cI 5 rw_13, ia (b 15) cI 5 n_we] rfl ?_
    refine v_istore_n C [(2, .int ((sitS nj n_kd n_ag st wl dn n_fr n_we n_mi s0 (fun p => p) nc).2.2.2.2.1)), (0, .ref (b 0)), (1, .int (nI jN))] dX5_worth_14 (by decide) rfl ?_
    refine v_aload_n C dX5_worth_15 1 rfl ?_
    refine v_get C f_X5_29 dX5_worth_16 0 rfl rfl ?_
    refine v_iload_n C dX5_worth_19 2 rfl ?_
    refine v_zaldN C dX5_worth_20 4 rfl jN rfl (by omega) (by decide) ?_
    refine v_eqi (bA st jN) (hiS jN hjN) ?_
    refine v_istore_n C [(3, .int (bA st jN)), (2, .int ((sitS nj n_kd n_ag st wl dn n_fr n_we n_mi s0 (fun p => p) nc).2.2.2.2.1)), (0, .ref (b 0)), (1, .int (nI jN))] dX5_worth_21 (by decide) rfl ?_
    refine v_aload_n C dX5_worth_22 2 rfl ?_
    refine v_get C f_X5_29 dX5_worth_23 0 rfl rfl ?_
    refine v_iload_n C dX5_worth_26 3 rfl ?_
    refine v_iconst C 1 dX5_worth_27 (by decide) ?_
    refine v_zastN C [oN b n_fa n_tr n_mi (nI nj) (nI nc) (nI wl) n_at n_rm n_rj n_rc nw_7 ov_8 rl_12 (nI nr), ia (b 9) cI 5 n_kd, ia (b 10) cI 5 n_ag, ia (b 11) cB 5 n_hS, ia (b 12) cB 5 (upd n_iS jN 1), ia (b 26) cB 5 iE_11, ia (b 13) cI 5 n_de, ia (b 14) cI 5 n_fr, ia (b 24) cI 5 ho_9, ia (b 25) cI 6 vd_10, ia (b 28) cI 5 rw_13, ia (b 15) cI 5 n_we] dX5_worth_28 4 rfl jN rfl (by omega) (by decide) rfl rfl ?_
    refine v_aload_n C dX5_worth_29 2 rfl ?_
    refine v_callMi C l_X5_211 (m_X5_byNumbers b wl nj nc s0 (set1 st jN) dn n_fa n_tr n_mi n_at n_rm n_rj n_rc nw_7 ov_8 rl_12 (nI nr) n_kd n_ag n_hS (upd n_iS jN 1) iE_11 n_de n_fr ho_9 vd_10 rw_13 n_we (by assumption) (by assumption) (by assumption) (by assumption) (bA_set hiS hnj (by omega) hjN) (by assumption)) (by decide) dX5_worth_30 [0, 1, 2, 3, 4, 5, 6, 7, 8, 9, 10, 11] [] (wr := []) (by decide) rfl rfl (by decide) (by decide) 0 rfl rfl rfl (rest := []) rfl (Nat.le_of_ble_eq_true rfl) (by decide) (fun r17 w15 h16 => ?_)
    obtain ⟨nw_18, ov_19, ho_20, vd_21, iE_22, rl_23, rw_24, rfl, rfl, hb25⟩ := h16
    refine v_ws0 [oN b n_fa n_tr n_mi (nI nj) (nI nc) (nI wl) n_at n_rm n_rj n_rc nw_18 ov_19 rl_23 (nI nr), ia (b 9) cI 5 n_kd, ia (b 10) cI 5 n_ag, ia (b 11) cB 5 n_hS, ia (b 12) cB 5 (upd n_iS jN 1), ia (b 26) cB 5 iE_22, ia (b 13) cI 5 n_de, ia (b 14) cI 5 n_fr, ia (b 24) cI 5 ho_20, ia (b 25) cI 6 vd_21, ia (b 28) cI 5 rw_24, ia (b 15) cI 5 n_we] rfl ?_
    refine v_istore C [(4, .int ((sitS nj n_kd n_ag (set1 st jN) wl dn n_fr n_we n_mi s0 (fun p => p) nc).2.2.2.2.1)), (3, .int (bA st jN)), (2, .int ((sitS nj n_kd n_ag st wl dn n_fr n_we n_mi s0 (fun p => p) nc).2.2.2.2.1)), (0, .ref (b 0)), (1, .int (nI jN))] dX5_worth_33 (by decide) rfl ?_
    refine v_aload_n C dX5_worth_35 3 rfl ?_
    refine v_get C f_X5_29 dX5_worth_36 0 rfl rfl ?_
    refine v_iload_n C dX5_worth_39 4 rfl ?_
    refine v_iload_n C dX5_worth_40 1 rfl ?_
    refine v_zastN C [oN b n_fa n_tr n_mi (nI nj) (nI nc) (nI wl) n_at n_rm n_rj n_rc nw_18 ov_19 rl_23 (nI nr), ia (b 9) cI 5 n_kd, ia (b 10) cI 5 n_ag, ia (b 11) cB 5 n_hS, ia (b 12) cB 5 (upd (upd n_iS jN 1) jN (bA st jN)), ia (b 26) cB 5 iE_22, ia (b 13) cI 5 n_de, ia (b 14) cI 5 n_fr, ia (b 24) cI 5 ho_20, ia (b 25) cI 6 vd_21, ia (b 28) cI 5 rw_24, ia (b 15) cI 5 n_we] dX5_worth_41 4 rfl jN rfl (by omega) (by decide) (bA_vp _ _) rfl ?_
    refine v_ws0 [oN b n_fa n_tr n_mi (nI nj) (nI nc) (nI wl) n_at n_rm n_rj n_rc nw_18 ov_19 rl_23 (nI nr), ia (b 9) cI 5 n_kd, ia (b 10) cI 5 n_ag, ia (b 11) cB 5 n_hS, ia (b 12) cB 5 n_iS, ia (b 26) cB 5 iE_22, ia (b 13) cI 5 n_de, ia (b 14) cI 5 n_fr, ia (b 24) cI 5 ho_20, ia (b 25) cI 6 vd_21, ia (b 28) cI 5 rw_24, ia (b 15) cI 5 n_we] (by rw [upd_back (hiS jN hjN)]) ?_
    refine v_iload_n C dX5_worth_42 2 rfl ?_
    refine v_iload C dX5_worth_43 0 rfl ?_
    refine v_isub C dX5_worth_45 ?_
    refine v_bipush C 100 dX5_worth_46 (by decide) ?_
    refine v_iadd C dX5_worth_48 ?_
    exact v_reti C hA dX5_worth_49 rfl (⟨_, _, _, _, _, _, _, by first | (simp only [woF, bI, zjN, c3, not_false_eq_true, not_true_eq_false, and_self, and_true, true_and, and_false, false_and, ↓reduceIte]; done) | (simp only [woF, bI, zjN, c3, not_false_eq_true, not_true_eq_false, and_self, and_true, true_and, and_false, false_and, ↓reduceIte]; rfl) | (simp [woF, bI, zjN, c3]; done) | rfl, by first | (simp only [woF, bI, zjN, c3, not_false_eq_true, not_true_eq_false, and_self, and_true, true_and, and_false, false_and, ↓reduceIte]; done) | (simp only [woF, bI, zjN, c3, not_false_eq_true, not_true_eq_false, and_self, and_true, true_and, and_false, false_and, ↓reduceIte]; rfl) | (simp [woF, bI, zjN, c3]; done) | rfl⟩)
  · refine v_eqi 0 (bI_f c3) ?_
    refine v_if_ne C 10 dX5_worth_5 (by decide) (fun h => absurd h (by decide)) (fun _ => ?_)
    refine v_iconst C (-1) dX5_worth_8 (by decide) ?_
    exact v_reti C hA dX5_worth_9 rfl (⟨_, _, _, _, _, _, _, by first | (simp only [woF, bI, c3, not_false_eq_true, not_true_eq_false, and_self, and_true, true_and, and_false, false_and, ↓reduceIte]; done) | (simp only [woF, bI, c3, not_false_eq_true, not_true_eq_false, and_self, and_true, true_and, and_false, false_and, ↓reduceIte]; rfl) | (simp [woF, bI, c3]; done) | rfl, by first | (simp only [woF, bI, c3, not_false_eq_true, not_true_eq_false, and_self, and_true, true_and, and_false, false_and, ↓reduceIte]; done) | (simp only [woF, bI, c3, not_false_eq_true, not_true_eq_false, and_self, and_true, true_and, and_false, false_and, ↓reduceIte]; rfl) | (simp [woF, bI, c3]; done) | rfl⟩)
set_option maxHeartbeats 4000000 in
set_option maxRecDepth 100000 in
theorem m_X5_mostByCourt {l : Launch} {D : va_G} {cI cB cS : ClassId} (b : Nat → Nat) (nj nc wl s0 st nr : Nat) (dn : Nat → Nat) (n_fa : Int32) (n_tr : Int32) (n_mi : Int32) (n_at : Int32) (n_rm : Int32) (n_rj : Int32) (n_rc : Int32) (n_nw : Int32) (n_ov : Int32) (n_rl : Int32) (n_kd : Nat → Int32) (n_ag : Nat → Int32) (n_hS : Nat → Int32) (n_iS : Nat → Int32) (n_iE : Nat → Int32) (n_de : Nat → Int32) (n_fr : Nat → Int32) (n_ho : Nat → Int32) (n_vd : Nat → Int32) (n_rw : Nat → Int32) (n_we : Nat → Int32) (hnj : nj ≤ 5) (hnc : nc ≤ 5) (hwl : wl < 64) (hs0 : s0 < 2 ^ nj) (hst2 : st < 2 ^ nj) (hp5 : 2 ^ nj ≤ 32) (hnr : nr ≤ 8) (hhS : ∀ j, j < nj → n_hS j = bA s0 j) (hiS : ∀ j, j < nj → n_iS j = bA st j) (hde : ∀ c, c < nc → n_de c = nI (dn c) ∧ dn c < 6) : Mi l yX5_mostByCourt cX5_mostByCourt 4 (some .int) 6 133 D cI cB cS [.ref (b 0)] [oN b n_fa n_tr n_mi (nI nj) (nI nc) (nI wl) n_at n_rm n_rj n_rc n_nw n_ov n_rl (nI nr), ia (b 9) cI 5 n_kd, ia (b 10) cI 5 n_ag, ia (b 11) cB 5 n_hS, ia (b 12) cB 5 n_iS, ia (b 26) cB 5 n_iE, ia (b 13) cI 5 n_de, ia (b 14) cI 5 n_fr, ia (b 24) cI 5 n_ho, ia (b 25) cI 6 n_vd, ia (b 28) cI 5 n_rw, ia (b 15) cI 5 n_we] (fun r w => ∃ (nw' : Int32) (ov' : Int32) (ho' : Nat → Int32) (vd' : Nat → Int32) (iE' : Nat → Int32) (rl' : Int32) (rw' : Nat → Int32), r = mbF (fun yx => (sitS nj n_kd n_ag yx wl dn n_fr n_we n_mi s0 (fun p => p) nc).2.2.2.2.1) st nj ∧ w = [oN b n_fa n_tr n_mi (nI nj) (nI nc) (nI wl) n_at n_rm n_rj n_rc nw' ov' rl' (nI nr), ia (b 9) cI 5 n_kd, ia (b 10) cI 5 n_ag, ia (b 11) cB 5 n_hS, ia (b 12) cB 5 n_iS, ia (b 26) cB 5 iE', ia (b 13) cI 5 n_de, ia (b 14) cI 5 n_fr, ia (b 24) cI 5 ho', ia (b 25) cI 6 vd', ia (b 28) cI 5 rw', ia (b 15) cI 5 n_we]) := by
  refine Mi.of (by decide) (Nat.le_of_ble_eq_true rfl) ?_
  intro zp ze zs zm zb zt zc zz zA hA C hnm
  refine v_lv0 [(0, .ref (b 0))] rfl ?_
  refine v_bipush C (-9) dX5_mostByCourt_0 (by decide) ?_
  refine v_istore_n C [(1, .int (-9)), (0, .ref (b 0))] dX5_mostByCourt_2 (by decide) rfl ?_
  refine v_iconst C 0 dX5_mostByCourt_3 (by decide) ?_
  refine v_istore_n C [(2, .int 0), (1, .int (-9)), (0, .ref (b 0))] dX5_mostByCourt_4 (by decide) rfl ?_
  have lp : ∀ (n_2 : Nat) (j : Nat) (mo : Int32) (nw1 : Int32) (ov1 : Int32) (ho1 : Nat → Int32) (vd1 : Nat → Int32) (iE1 : Nat → Int32) (rl1 : Int32) (rw1 : Nat → Int32), nj - j < n_2 → (j ≤ nj) → (mo = mbS (fun yx => (sitS nj n_kd n_ag yx wl dn n_fr n_we n_mi s0 (fun p => p) nc).2.2.2.2.1) st j) → V zp l ze (rmOf 6 133) zs zm [.ref (b 0)].toArray zb zt zc D (IM zA zs) (QMi zb [.ref (b 0)].toArray zs D cI cB cS [oN b n_fa n_tr n_mi (nI nj) (nI nc) (nI wl) n_at n_rm n_rj n_rc n_nw n_ov n_rl (nI nr), ia (b 9) cI 5 n_kd, ia (b 10) cI 5 n_ag, ia (b 11) cB 5 n_hS, ia (b 12) cB 5 n_iS, ia (b 26) cB 5 n_iE, ia (b 13) cI 5 n_de, ia (b 14) cI 5 n_fr, ia (b 24) cI 5 n_ho, ia (b 25) cI 6 n_vd, ia (b 28) cI 5 n_rw, ia (b 15) cI 5 n_we] zz (fun r w => ∃ (nw' : Int32) (ov' : Int32) (ho' : Nat → Int32) (vd' : Nat → Int32) (iE' : Nat → Int32) (rl' : Int32) (rw' : Nat → Int32), r = mbF (fun yx => (sitS nj n_kd n_ag yx wl dn n_fr n_we n_mi s0 (fun p => p) nc).2.2.2.2.1) st nj ∧ w = [oN b n_fa n_tr n_mi (nI nj) (nI nc) (nI wl) n_at n_rm n_rj n_rc nw' ov' rl' (nI nr), ia (b 9) cI 5 n_kd, ia (b 10) cI 5 n_ag, ia (b 11) cB 5 n_hS, ia (b 12) cB 5 n_iS, ia (b 26) cB 5 iE', ia (b 13) cI 5 n_de, ia (b 14) cI 5 n_fr, ia (b 24) cI 5 ho', ia (b 25) cI 6 vd', ia (b 28) cI 5 rw', ia (b 15) cI 5 n_we])) 0 0 4 [oN b n_fa n_tr n_mi (nI nj) (nI nc) (nI wl) n_at n_rm n_rj n_rc nw1 ov1 rl1 (nI nr), ia (b 9) cI 5 n_kd, ia (b 10) cI 5 n_ag, ia (b 11) cB 5 n_hS, ia (b 12) cB 5 n_iS, ia (b 26) cB 5 iE1, ia (b 13) cI 5 n_de, ia (b 14) cI 5 n_fr, ia (b 24) cI 5 ho1, ia (b 25) cI 6 vd1, ia (b 28) cI 5 rw1, ia (b 15) cI 5 n_we] [(2, .int (nI j)), (1, .int mo), (0, .ref (b 0))] 5 [] := by
    intro n_2
    induction n_2 with
    | zero => intro j mo nw1 ov1 ho1 vd1 iE1 rl1 rw1 b1; exact absurd b1 (by omega)
    | succ n_2 ihn_2 =>
      intro j mo nw1 ov1 ho1 vd1 iE1 rl1 rw1 b1 hj hm
      refine v_iload_n C dX5_mostByCourt_5 0 rfl ?_
      refine v_aload_n C dX5_mostByCourt_6 2 rfl ?_
      refine v_get C f_X5_78 dX5_mostByCourt_7 0 rfl rfl ?_
      refine v_icmp_ge C 58 dX5_mostByCourt_10 (by decide) (fun c3 => ?_) (fun c3 => ?_)
      · have nc3 : nj ≤ j := nI_leD c3 (by omega)
        have hje : j = nj := by omega
        rw [hje] at hm
        refine v_iload_n C dX5_mostByCourt_58 1 rfl ?_
        refine v_bipush C (-9) dX5_mostByCourt_59 (by decide) ?_
        refine v_icmp_ne C 71 dX5_mostByCourt_61 (by decide) (fun c4 => ?_) (fun c4 => ?_)
        · refine v_iload_n C dX5_mostByCourt_71 1 rfl ?_
          exact v_reti C hA dX5_mostByCourt_72 rfl (⟨_, _, _, _, _, _, _, by rw [mbF, if_neg (by rw [← hm]; exact c4)]; exact hm, rfl⟩)
        · refine v_aload_n C dX5_mostByCourt_64 2 rfl ?_
          refine v_callMi C l_X5_211 (m_X5_byNumbers b wl nj nc s0 st dn n_fa n_tr n_mi n_at n_rm n_rj n_rc nw1 ov1 rl1 (nI nr) n_kd n_ag n_hS n_iS iE1 n_de n_fr ho1 vd1 rw1 n_we (by assumption) (by assumption) (by assumption) (by assumption) (by assumption) (by assumption)) (by decide) dX5_mostByCourt_65 [0, 1, 2, 3, 4, 5, 6, 7, 8, 9, 10, 11] [] (wr := []) (by decide) rfl rfl (by decide) (by decide) 0 rfl rfl rfl (rest := []) rfl (Nat.le_of_ble_eq_true rfl) (by decide) (fun r7 w5 h6 => ?_)
          obtain ⟨nw_8, ov_9, ho_10, vd_11, iE_12, rl_13, rw_14, rfl, rfl, hb15⟩ := h6
          refine v_ws0 [oN b n_fa n_tr n_mi (nI nj) (nI nc) (nI wl) n_at n_rm n_rj n_rc nw_8 ov_9 rl_13 (nI nr), ia (b 9) cI 5 n_kd, ia (b 10) cI 5 n_ag, ia (b 11) cB 5 n_hS, ia (b 12) cB 5 n_iS, ia (b 26) cB 5 iE_12, ia (b 13) cI 5 n_de, ia (b 14) cI 5 n_fr, ia (b 24) cI 5 ho_10, ia (b 25) cI 6 vd_11, ia (b 28) cI 5 rw_14, ia (b 15) cI 5 n_we] rfl ?_
          refine v_goto C 72 dX5_mostByCourt_68 (by decide) ?_
          exact v_reti C hA dX5_mostByCourt_72 rfl (⟨_, _, _, _, _, _, _, by rw [mbF, if_pos (by rw [← hm]; exact c4)], rfl⟩)
      · have nc3 : j < nj := nI_ltD c3 (by omega)
        have hjn : j < nj := nc3
        refine v_aload_n C dX5_mostByCourt_13 2 rfl ?_
        refine v_get C f_X5_29 dX5_mostByCourt_14 0 rfl rfl ?_
        refine v_iload_n C dX5_mostByCourt_17 0 rfl ?_
        refine v_zaldN C dX5_mostByCourt_18 4 rfl j rfl (by omega) (by decide) ?_
        refine v_eqi (bA st j) (hiS j hjn) ?_
        refine v_if_ne C 52 dX5_mostByCourt_19 (by decide) (fun c16 => ?_) (fun c16 => ?_)
        · have hb : st.testBit j = true := bA_n.mp c16
          refine v_iinc C (nI (j + 1)) [(2, .int (nI (j + 1))), (1, .int mo), (0, .ref (b 0))] 0 dX5_mostByCourt_52 rfl (nI_inc _) (by decide) rfl ?_
          refine v_goto C 5 dX5_mostByCourt_55 (by decide) ?_
          exact ihn_2 (j + 1) mo nw1 ov1 ho1 vd1 iE1 rl1 rw1 (by omega) (by omega) (by rw [mbS, if_pos hb]; exact hm)
        · have hb : st.testBit j = false := bA_0.mp c16
          have hz : n_iS j = 0 := by rw [hiS j hjn]; exact c16
          refine v_aload_n C dX5_mostByCourt_22 2 rfl ?_
          refine v_get C f_X5_29 dX5_mostByCourt_23 0 rfl rfl ?_
          refine v_iload_n C dX5_mostByCourt_26 0 rfl ?_
          refine v_iconst C 1 dX5_mostByCourt_27 (by decide) ?_
          refine v_zastN C [oN b n_fa n_tr n_mi (nI nj) (nI nc) (nI wl) n_at n_rm n_rj n_rc nw1 ov1 rl1 (nI nr), ia (b 9) cI 5 n_kd, ia (b 10) cI 5 n_ag, ia (b 11) cB 5 n_hS, ia (b 12) cB 5 (upd n_iS j 1), ia (b 26) cB 5 iE1, ia (b 13) cI 5 n_de, ia (b 14) cI 5 n_fr, ia (b 24) cI 5 ho1, ia (b 25) cI 6 vd1, ia (b 28) cI 5 rw1, ia (b 15) cI 5 n_we] dX5_mostByCourt_28 4 rfl j rfl (by omega) (by decide) rfl rfl ?_
          refine v_aload_n C dX5_mostByCourt_29 2 rfl ?_
          refine v_callMi C l_X5_211 (m_X5_byNumbers b wl nj nc s0 (set1 st j) dn n_fa n_tr n_mi n_at n_rm n_rj n_rc nw1 ov1 rl1 (nI nr) n_kd n_ag n_hS (upd n_iS j 1) iE1 n_de n_fr ho1 vd1 rw1 n_we (by assumption) (by assumption) (by assumption) (by assumption) (bA_set hiS hnj (by omega) hjn) (by assumption)) (by decide) dX5_mostByCourt_30 [0, 1, 2, 3, 4, 5, 6, 7, 8, 9, 10, 11] [] (wr := []) (by decide) rfl rfl (by decide) (by decide) 0 rfl rfl rfl (rest := []) rfl (Nat.le_of_ble_eq_true rfl) (by decide) (fun r19 w17 h18 => ?_)
          obtain ⟨nw_20, ov_21, ho_22, vd_23, iE_24, rl_25, rw_26, rfl, rfl, hb27⟩ := h18
          refine v_ws0 [oN b n_fa n_tr n_mi (nI nj) (nI nc) (nI wl) n_at n_rm n_rj n_rc nw_20 ov_21 rl_25 (nI nr), ia (b 9) cI 5 n_kd, ia (b 10) cI 5 n_ag, ia (b 11) cB 5 n_hS, ia (b 12) cB 5 (upd n_iS j 1), ia (b 26) cB 5 iE_24, ia (b 13) cI 5 n_de, ia (b 14) cI 5 n_fr, ia (b 24) cI 5 ho_22, ia (b 25) cI 6 vd_23, ia (b 28) cI 5 rw_26, ia (b 15) cI 5 n_we] rfl ?_
          refine v_istore_n C [(3, .int ((sitS nj n_kd n_ag (set1 st j) wl dn n_fr n_we n_mi s0 (fun p => p) nc).2.2.2.2.1)), (2, .int (nI j)), (1, .int mo), (0, .ref (b 0))] dX5_mostByCourt_33 (by decide) rfl ?_
          refine v_iload_n C dX5_mostByCourt_34 0 rfl ?_
          refine v_iload_n C dX5_mostByCourt_35 2 rfl ?_
          refine v_icmp_le C 43 dX5_mostByCourt_36 (by decide) (fun c28 => ?_) (fun c28 => ?_)
          · refine v_iload_n C dX5_mostByCourt_43 2 rfl ?_
            refine v_istore_n C [(1, .int mo), (3, .int ((sitS nj n_kd n_ag (set1 st j) wl dn n_fr n_we n_mi s0 (fun p => p) nc).2.2.2.2.1)), (2, .int (nI j)), (0, .ref (b 0))] dX5_mostByCourt_44 (by decide) rfl ?_
            refine v_aload_n C dX5_mostByCourt_45 3 rfl ?_
            refine v_get C f_X5_29 dX5_mostByCourt_46 0 rfl rfl ?_
            refine v_iload_n C dX5_mostByCourt_49 2 rfl ?_
            refine v_iconst C 0 dX5_mostByCourt_50 (by decide) ?_
            refine v_zastN C [oN b n_fa n_tr n_mi (nI nj) (nI nc) (nI wl) n_at n_rm n_rj n_rc nw_20 ov_21 rl_25 (nI nr), ia (b 9) cI 5 n_kd, ia (b 10) cI 5 n_ag, ia (b 11) cB 5 n_hS, ia (b 12) cB 5 (upd (upd n_iS j 1) j 0), ia (b 26) cB 5 iE_24, ia (b 13) cI 5 n_de, ia (b 14) cI 5 n_fr, ia (b 24) cI 5 ho_22, ia (b 25) cI 6 vd_23, ia (b 28) cI 5 rw_26, ia (b 15) cI 5 n_we] dX5_mostByCourt_51 4 rfl j rfl (by omega) (by decide) rfl rfl ?_
            refine v_ws0 [oN b n_fa n_tr n_mi (nI nj) (nI nc) (nI wl) n_at n_rm n_rj n_rc nw_20 ov_21 rl_25 (nI nr), ia (b 9) cI 5 n_kd, ia (b 10) cI 5 n_ag, ia (b 11) cB 5 n_hS, ia (b 12) cB 5 n_iS, ia (b 26) cB 5 iE_24, ia (b 13) cI 5 n_de, ia (b 14) cI 5 n_fr, ia (b 24) cI 5 ho_22, ia (b 25) cI 6 vd_23, ia (b 28) cI 5 rw_26, ia (b 15) cI 5 n_we] (by rw [upd_back hz]) ?_
            refine v_iinc C (nI (j + 1)) [(2, .int (nI (j + 1))), (1, .int mo), (3, .int ((sitS nj n_kd n_ag (set1 st j) wl dn n_fr n_we n_mi s0 (fun p => p) nc).2.2.2.2.1)), (0, .ref (b 0))] 2 dX5_mostByCourt_52 rfl (nI_inc _) (by decide) rfl ?_
            refine v_goto C 5 dX5_mostByCourt_55 (by decide) ?_
            refine v_loc [0, 1, 3] (lv' := [(2, .int (nI (j + 1))), (1, .int mo), (0, .ref (b 0))]) rfl ?_
            exact ihn_2 (j + 1) mo nw_20 ov_21 ho_22 vd_23 iE_24 rl_25 rw_26 (by omega) (by omega) (by rw [mbS, if_neg (by rw [hb]; decide), ← hm, if_neg (Int32.not_lt.mpr c28)])
          · refine v_iload_n C dX5_mostByCourt_39 0 rfl ?_
            refine v_goto C 44 dX5_mostByCourt_40 (by decide) ?_
            refine v_istore_n C [(1, .int ((sitS nj n_kd n_ag (set1 st j) wl dn n_fr n_we n_mi s0 (fun p => p) nc).2.2.2.2.1)), (3, .int ((sitS nj n_kd n_ag (set1 st j) wl dn n_fr n_we n_mi s0 (fun p => p) nc).2.2.2.2.1)), (2, .int (nI j)), (0, .ref (b 0))] dX5_mostByCourt_44 (by decide) rfl ?_
            refine v_aload_n C dX5_mostByCourt_45 3 rfl ?_
            refine v_get C f_X5_29 dX5_mostByCourt_46 0 rfl rfl ?_
            refine v_iload_n C dX5_mostByCourt_49 2 rfl ?_
            refine v_iconst C 0 dX5_mostByCourt_50 (by decide) ?_
            refine v_zastN C [oN b n_fa n_tr n_mi (nI nj) (nI nc) (nI wl) n_at n_rm n_rj n_rc nw_20 ov_21 rl_25 (nI nr), ia (b 9) cI 5 n_kd, ia (b 10) cI 5 n_ag, ia (b 11) cB 5 n_hS, ia (b 12) cB 5 (upd (upd n_iS j 1) j 0), ia (b 26) cB 5 iE_24, ia (b 13) cI 5 n_de, ia (b 14) cI 5 n_fr, ia (b 24) cI 5 ho_22, ia (b 25) cI 6 vd_23, ia (b 28) cI 5 rw_26, ia (b 15) cI 5 n_we] dX5_mostByCourt_51 4 rfl j rfl (by omega) (by decide) rfl rfl ?_
            refine v_ws0 [oN b n_fa n_tr n_mi (nI nj) (nI nc) (nI wl) n_at n_rm n_rj n_rc nw_20 ov_21 rl_25 (nI nr), ia (b 9) cI 5 n_kd, ia (b 10) cI 5 n_ag, ia (b 11) cB 5 n_hS, ia (b 12) cB 5 n_iS, ia (b 26) cB 5 iE_24, ia (b 13) cI 5 n_de, ia (b 14) cI 5 n_fr, ia (b 24) cI 5 ho_22, ia (b 25) cI 6 vd_23, ia (b 28) cI 5 rw_26, ia (b 15) cI 5 n_we] (by rw [upd_back hz]) ?_
            refine v_iinc C (nI (j + 1)) [(2, .int (nI (j + 1))), (1, .int ((sitS nj n_kd n_ag (set1 st j) wl dn n_fr n_we n_mi s0 (fun p => p) nc).2.2.2.2.1)), (3, .int ((sitS nj n_kd n_ag (set1 st j) wl dn n_fr n_we n_mi s0 (fun p => p) nc).2.2.2.2.1)), (0, .ref (b 0))] 2 dX5_mostByCourt_52 rfl (nI_inc _) (by decide) rfl ?_
            refine v_goto C 5 dX5_mostByCourt_55 (by decide) ?_
            refine v_loc [0, 1, 3] (lv' := [(2, .int (nI (j + 1))), (1, .int ((sitS nj n_kd n_ag (set1 st j) wl dn n_fr n_we n_mi s0 (fun p => p) nc).2.2.2.2.1)), (0, .ref (b 0))]) rfl ?_
            exact ihn_2 (j + 1) ((sitS nj n_kd n_ag (set1 st j) wl dn n_fr n_we n_mi s0 (fun p => p) nc).2.2.2.2.1) nw_20 ov_21 ho_22 vd_23 iE_24 rl_25 rw_26 (by omega) (by omega) (by rw [mbS, if_neg (by rw [hb]; decide), ← hm, if_pos (Int32.not_le.mp c28)])
  exact lp (nj - 0 + 1) 0 (-9) n_nw n_ov n_ho n_vd n_iE n_rl n_rw (by omega) (by omega) rfl
set_option maxHeartbeats 4000000 in
set_option maxRecDepth 100000 in
theorem m_X5_strikes {l : Launch} {D : va_G} {cI cB cS : ClassId} (b : Nat → Nat) (nj nc wl s0 st nr : Nat) (dn : Nat → Nat) (n_fa : Int32) (n_tr : Int32) (n_mi : Int32) (n_at : Int32) (n_rm : Int32) (n_rj : Int32) (n_rc : Int32) (n_nw : Int32) (n_ov : Int32) (n_rl : Int32) (n_kd : Nat → Int32) (n_ag : Nat → Int32) (n_hS : Nat → Int32) (n_iS : Nat → Int32) (n_iE : Nat → Int32) (n_de : Nat → Int32) (n_fr : Nat → Int32) (n_ho : Nat → Int32) (n_vd : Nat → Int32) (n_rw : Nat → Int32) (n_we : Nat → Int32) (x : Int32) (hnj : nj ≤ 5) (hnc : nc ≤ 5) (hwl : wl < 64) (hs0 : s0 < 2 ^ nj) (hst2 : st < 2 ^ nj) (hp5 : 2 ^ nj ≤ 32) (hnr : nr ≤ 8) (hhS : ∀ j, j < nj → n_hS j = bA s0 j) (hiS : ∀ j, j < nj → n_iS j = bA st j) (hde : ∀ c, c < nc → n_de c = nI (dn c) ∧ dn c < 6) : Mi l yX5_strikes cX5_strikes 6 (some .int) 7 156 D cI cB cS [.ref (b 0), .int x] [oN b n_fa n_tr n_mi (nI nj) (nI nc) (nI wl) n_at n_rm n_rj n_rc n_nw n_ov n_rl (nI nr), ia (b 9) cI 5 n_kd, ia (b 10) cI 5 n_ag, ia (b 11) cB 5 n_hS, ia (b 12) cB 5 n_iS, ia (b 26) cB 5 n_iE, ia (b 13) cI 5 n_de, ia (b 14) cI 5 n_fr, ia (b 24) cI 5 n_ho, ia (b 25) cI 6 n_vd, ia (b 28) cI 5 n_rw, ia (b 15) cI 5 n_we] (fun r w => ∃ (nw' : Int32) (ov' : Int32) (ho' : Nat → Int32) (vd' : Nat → Int32) (iE' : Nat → Int32) (rl' : Int32) (rw' : Nat → Int32), r = skF nj nc (fun yx => (sitS nj n_kd n_ag yx wl dn n_fr n_we n_mi s0 (fun p => p) nc).2.2.2.2.1) st x ∧ w = [oN b n_fa n_tr n_mi (nI nj) (nI nc) (nI wl) n_at n_rm n_rj n_rc nw' ov' rl' (nI nr), ia (b 9) cI 5 n_kd, ia (b 10) cI 5 n_ag, ia (b 11) cB 5 n_hS, ia (b 12) cB 5 n_iS, ia (b 26) cB 5 iE', ia (b 13) cI 5 n_de, ia (b 14) cI 5 n_fr, ia (b 24) cI 5 ho', ia (b 25) cI 6 vd', ia (b 28) cI 5 rw', ia (b 15) cI 5 n_we]) := by
  refine Mi.of (by decide) (Nat.le_of_ble_eq_true rfl) ?_
  intro zp ze zs zm zb zt zc zz zA hA C hnm
  refine v_lv0 [(0, .ref (b 0)), (1, .int x)] rfl ?_
  refine v_iload_n C dX5_strikes_0 1 rfl ?_
  refine v_iconst C 0 dX5_strikes_1 (by decide) ?_
  refine v_iconst C 1 dX5_strikes_2 (by decide) ?_
  refine v_callSi C l_X5_74 (m_X5_within x 0 1) (by decide) dX5_strikes_3 [] rfl rfl (rest := []) rfl (Nat.le_of_ble_eq_true rfl) (by decide) (fun r1 h2 => ?_)
  subst h2
  by_cases c3 : wib x (0 : Int32) (1 : Int32) = true
  · refine v_eqi 1 (bI_t c3) ?_
    rw [wib_1] at c3
    refine v_if_ne C 12 dX5_strikes_6 (by decide) (fun _ => ?_) (fun h => absurd h (by decide))
    refine v_aload_n C dX5_strikes_12 0 rfl ?_
    refine v_get C f_X5_81 dX5_strikes_13 0 rfl rfl ?_
    refine v_if_ne C 22 dX5_strikes_16 (by decide) (fun c4 => ?_) (fun c4 => ?_)
    · have nc4 : nc ≠ 0 := fun q => c4 (by rw [q] <;> rfl)
      have zc5 : ¬ nI nc ≤ 0 := by rw [nc0 hnc]; exact nc4
      have hnc1 : 1 ≤ nc := by omega
      refine v_aload_n C dX5_strikes_22 0 rfl ?_
      refine v_callMi C l_X5_211 (m_X5_byNumbers b wl nj nc s0 st dn n_fa n_tr n_mi n_at n_rm n_rj n_rc n_nw n_ov n_rl (nI nr) n_kd n_ag n_hS n_iS n_iE n_de n_fr n_ho n_vd n_rw n_we (by assumption) (by assumption) (by assumption) (by assumption) (by assumption) (by assumption)) (by decide) dX5_strikes_23 [0, 1, 2, 3, 4, 5, 6, 7, 8, 9, 10, 11] [] (wr := []) (by decide) rfl rfl (by decide) (by decide) 0 rfl rfl rfl (rest := []) rfl (Nat.le_of_ble_eq_true rfl) (by decide) (fun r8 w6 h7 => ?_)
      obtain ⟨nw_9, ov_10, ho_11, vd_12, iE_13, rl_14, rw_15, rfl, rfl, hb16⟩ := h7
      refine v_ws0 [oN b n_fa n_tr n_mi (nI nj) (nI nc) (nI wl) n_at n_rm n_rj n_rc nw_9 ov_10 rl_14 (nI nr), ia (b 9) cI 5 n_kd, ia (b 10) cI 5 n_ag, ia (b 11) cB 5 n_hS, ia (b 12) cB 5 n_iS, ia (b 26) cB 5 iE_13, ia (b 13) cI 5 n_de, ia (b 14) cI 5 n_fr, ia (b 24) cI 5 ho_11, ia (b 25) cI 6 vd_12, ia (b 28) cI 5 rw_15, ia (b 15) cI 5 n_we] rfl ?_
      refine v_istore_n C [(2, .int ((sitS nj n_kd n_ag st wl dn n_fr n_we n_mi s0 (fun p => p) nc).2.2.2.2.1)), (0, .ref (b 0)), (1, .int x)] dX5_strikes_26 (by decide) rfl ?_
      refine v_bipush C (-9) dX5_strikes_27 (by decide) ?_
      refine v_istore_n C [(3, .int (-9)), (2, .int ((sitS nj n_kd n_ag st wl dn n_fr n_we n_mi s0 (fun p => p) nc).2.2.2.2.1)), (0, .ref (b 0)), (1, .int x)] dX5_strikes_29 (by decide) rfl ?_
      refine v_iconst C 0 dX5_strikes_30 (by decide) ?_
      refine v_istore C [(4, .int 0), (3, .int (-9)), (2, .int ((sitS nj n_kd n_ag st wl dn n_fr n_we n_mi s0 (fun p => p) nc).2.2.2.2.1)), (0, .ref (b 0)), (1, .int x)] dX5_strikes_31 (by decide) rfl ?_
      have lp : ∀ (n_18 : Nat) (j : Nat) (his : Int32) (lea : Int32) (le : Int32) (nw1 : Int32) (ov1 : Int32) (ho1 : Nat → Int32) (vd1 : Nat → Int32) (iE1 : Nat → Int32) (rl1 : Int32) (rw1 : Nat → Int32), nj - j < n_18 → (j ≤ nj) → (skS (fun j => mbF (fun yx => (sitS nj n_kd n_ag yx wl dn n_fr n_we n_mi s0 (fun p => p) nc).2.2.2.2.1) (set1 st j) nj) st j = (his, lea)) → (le = if his = -9 then (fun yx => (sitS nj n_kd n_ag yx wl dn n_fr n_we n_mi s0 (fun p => p) nc).2.2.2.2.1) st else lea) → V zp l ze (rmOf 7 156) zs zm [.ref (b 0), .int x].toArray zb zt zc D (IM zA zs) (QMi zb [.ref (b 0), .int x].toArray zs D cI cB cS [oN b n_fa n_tr n_mi (nI nj) (nI nc) (nI wl) n_at n_rm n_rj n_rc n_nw n_ov n_rl (nI nr), ia (b 9) cI 5 n_kd, ia (b 10) cI 5 n_ag, ia (b 11) cB 5 n_hS, ia (b 12) cB 5 n_iS, ia (b 26) cB 5 n_iE, ia (b 13) cI 5 n_de, ia (b 14) cI 5 n_fr, ia (b 24) cI 5 n_ho, ia (b 25) cI 6 n_vd, ia (b 28) cI 5 n_rw, ia (b 15) cI 5 n_we] zz (fun r w => ∃ (nw' : Int32) (ov' : Int32) (ho' : Nat → Int32) (vd' : Nat → Int32) (iE' : Nat → Int32) (rl' : Int32) (rw' : Nat → Int32), r = skF nj nc (fun yx => (sitS nj n_kd n_ag yx wl dn n_fr n_we n_mi s0 (fun p => p) nc).2.2.2.2.1) st x ∧ w = [oN b n_fa n_tr n_mi (nI nj) (nI nc) (nI wl) n_at n_rm n_rj n_rc nw' ov' rl' (nI nr), ia (b 9) cI 5 n_kd, ia (b 10) cI 5 n_ag, ia (b 11) cB 5 n_hS, ia (b 12) cB 5 n_iS, ia (b 26) cB 5 iE', ia (b 13) cI 5 n_de, ia (b 14) cI 5 n_fr, ia (b 24) cI 5 ho', ia (b 25) cI 6 vd', ia (b 28) cI 5 rw', ia (b 15) cI 5 n_we])) 0 0 6 [oN b n_fa n_tr n_mi (nI nj) (nI nc) (nI wl) n_at n_rm n_rj n_rc nw1 ov1 rl1 (nI nr), ia (b 9) cI 5 n_kd, ia (b 10) cI 5 n_ag, ia (b 11) cB 5 n_hS, ia (b 12) cB 5 n_iS, ia (b 26) cB 5 iE1, ia (b 13) cI 5 n_de, ia (b 14) cI 5 n_fr, ia (b 24) cI 5 ho1, ia (b 25) cI 6 vd1, ia (b 28) cI 5 rw1, ia (b 15) cI 5 n_we] [(4, .int (nI j)), (3, .int his), (2, .int le), (0, .ref (b 0)), (1, .int x)] 33 [] := by
        intro n_18
        induction n_18 with
        | zero => intro j his lea le nw1 ov1 ho1 vd1 iE1 rl1 rw1 b17; exact absurd b17 (by omega)
        | succ n_18 ihn_18 =>
          intro j his lea le nw1 ov1 ho1 vd1 iE1 rl1 rw1 b17 hj hsk hle
          refine v_iload C dX5_strikes_33 0 rfl ?_
          refine v_aload_n C dX5_strikes_35 3 rfl ?_
          refine v_get C f_X5_78 dX5_strikes_36 0 rfl rfl ?_
          refine v_icmp_ge C 98 dX5_strikes_39 (by decide) (fun c19 => ?_) (fun c19 => ?_)
          · have nc19 : nj ≤ j := nI_leD c19 (by omega)
            have hje : j = nj := by omega
            rw [hje] at hsk
            refine v_iload_n C dX5_strikes_98 4 rfl ?_
            refine v_if_ne C 106 dX5_strikes_99 (by decide) (fun c20 => ?_) (fun c20 => ?_)
            · refine v_iload_n C dX5_strikes_106 1 rfl ?_
              exact v_reti C hA dX5_strikes_107 rfl (⟨_, _, _, _, _, _, _, by rw [skF, if_pos c3, if_neg zc5, if_pos (x01 c3 c20), hsk], rfl⟩)
            · refine v_iload_n C dX5_strikes_102 2 rfl ?_
              refine v_goto C 107 dX5_strikes_103 (by decide) ?_
              exact v_reti C hA dX5_strikes_107 rfl (⟨_, _, _, _, _, _, _, by rw [skF, if_pos c3, if_neg zc5, if_neg (by rw [c20]; decide), hsk]; exact hle, rfl⟩)
          · have nc19 : j < nj := nI_ltD c19 (by omega)
            have hjn : j < nj := nc19
            refine v_aload_n C dX5_strikes_42 3 rfl ?_
            refine v_get C f_X5_29 dX5_strikes_43 0 rfl rfl ?_
            refine v_iload C dX5_strikes_46 0 rfl ?_
            refine v_zaldN C dX5_strikes_48 4 rfl j rfl (by omega) (by decide) ?_
            refine v_eqi (bA st j) (hiS j hjn) ?_
            refine v_if_ne C 92 dX5_strikes_49 (by decide) (fun c21 => ?_) (fun c21 => ?_)
            · have hb : st.testBit j = true := bA_n.mp c21
              refine v_iinc C (nI (j + 1)) [(4, .int (nI (j + 1))), (3, .int his), (2, .int le), (0, .ref (b 0)), (1, .int x)] 0 dX5_strikes_92 rfl (nI_inc _) (by decide) rfl ?_
              refine v_goto C 33 dX5_strikes_95 (by decide) ?_
              exact ihn_18 (j + 1) his lea le nw1 ov1 ho1 vd1 iE1 rl1 rw1 (by omega) (by omega) (by rw [skS, if_pos hb]; exact hsk) hle
            · have hb : st.testBit j = false := bA_0.mp c21
              have hz : n_iS j = 0 := by rw [hiS j hjn]; exact c21
              refine v_aload_n C dX5_strikes_52 3 rfl ?_
              refine v_get C f_X5_29 dX5_strikes_53 0 rfl rfl ?_
              refine v_iload C dX5_strikes_56 0 rfl ?_
              refine v_iconst C 1 dX5_strikes_58 (by decide) ?_
              refine v_zastN C [oN b n_fa n_tr n_mi (nI nj) (nI nc) (nI wl) n_at n_rm n_rj n_rc nw1 ov1 rl1 (nI nr), ia (b 9) cI 5 n_kd, ia (b 10) cI 5 n_ag, ia (b 11) cB 5 n_hS, ia (b 12) cB 5 (upd n_iS j 1), ia (b 26) cB 5 iE1, ia (b 13) cI 5 n_de, ia (b 14) cI 5 n_fr, ia (b 24) cI 5 ho1, ia (b 25) cI 6 vd1, ia (b 28) cI 5 rw1, ia (b 15) cI 5 n_we] dX5_strikes_59 4 rfl j rfl (by omega) (by decide) rfl rfl ?_
              refine v_aload_n C dX5_strikes_60 3 rfl ?_
              refine v_callMi C l_X5_214 (m_X5_mostByCourt b nj nc wl s0 (set1 st j) nr dn n_fa n_tr n_mi n_at n_rm n_rj n_rc nw1 ov1 rl1 n_kd n_ag n_hS (upd n_iS j 1) iE1 n_de n_fr ho1 vd1 rw1 n_we (by assumption) (by assumption) (by assumption) (by assumption) (set1_lt nj (by omega) st hst2 j hjn) (by assumption) (by assumption) (by assumption) (bA_set hiS hnj (by omega) hjn) (by assumption)) (by decide) dX5_strikes_61 [0, 1, 2, 3, 4, 5, 6, 7, 8, 9, 10, 11] [] (wr := []) (by decide) rfl rfl (by decide) (by decide) 0 rfl rfl rfl (rest := []) rfl (Nat.le_of_ble_eq_true rfl) (by decide) (fun r24 w22 h23 => ?_)
              obtain ⟨nw'_25, ov'_26, ho'_27, vd'_28, iE'_29, rl'_30, rw'_31, rfl, rfl⟩ := h23
              refine v_ws0 [oN b n_fa n_tr n_mi (nI nj) (nI nc) (nI wl) n_at n_rm n_rj n_rc nw'_25 ov'_26 rl'_30 (nI nr), ia (b 9) cI 5 n_kd, ia (b 10) cI 5 n_ag, ia (b 11) cB 5 n_hS, ia (b 12) cB 5 (upd n_iS j 1), ia (b 26) cB 5 iE'_29, ia (b 13) cI 5 n_de, ia (b 14) cI 5 n_fr, ia (b 24) cI 5 ho'_27, ia (b 25) cI 6 vd'_28, ia (b 28) cI 5 rw'_31, ia (b 15) cI 5 n_we] rfl ?_
              refine v_istore C [(5, .int (mbF (fun yx => (sitS nj n_kd n_ag yx wl dn n_fr n_we n_mi s0 (fun p => p) nc).2.2.2.2.1) (set1 st j) nj)), (4, .int (nI j)), (3, .int his), (2, .int le), (0, .ref (b 0)), (1, .int x)] dX5_strikes_64 (by decide) rfl ?_
              refine v_aload_n C dX5_strikes_66 4 rfl ?_
              refine v_get C f_X5_29 dX5_strikes_67 0 rfl rfl ?_
              refine v_iload C dX5_strikes_70 1 rfl ?_
              refine v_iconst C 0 dX5_strikes_72 (by decide) ?_
              refine v_zastN C [oN b n_fa n_tr n_mi (nI nj) (nI nc) (nI wl) n_at n_rm n_rj n_rc nw'_25 ov'_26 rl'_30 (nI nr), ia (b 9) cI 5 n_kd, ia (b 10) cI 5 n_ag, ia (b 11) cB 5 n_hS, ia (b 12) cB 5 (upd (upd n_iS j 1) j 0), ia (b 26) cB 5 iE'_29, ia (b 13) cI 5 n_de, ia (b 14) cI 5 n_fr, ia (b 24) cI 5 ho'_27, ia (b 25) cI 6 vd'_28, ia (b 28) cI 5 rw'_31, ia (b 15) cI 5 n_we] dX5_strikes_73 4 rfl j rfl (by omega) (by decide) rfl rfl ?_
              refine v_ws0 [oN b n_fa n_tr n_mi (nI nj) (nI nc) (nI wl) n_at n_rm n_rj n_rc nw'_25 ov'_26 rl'_30 (nI nr), ia (b 9) cI 5 n_kd, ia (b 10) cI 5 n_ag, ia (b 11) cB 5 n_hS, ia (b 12) cB 5 n_iS, ia (b 26) cB 5 iE'_29, ia (b 13) cI 5 n_de, ia (b 14) cI 5 n_fr, ia (b 24) cI 5 ho'_27, ia (b 25) cI 6 vd'_28, ia (b 28) cI 5 rw'_31, ia (b 15) cI 5 n_we] (by rw [upd_back hz]) ?_
              refine v_iload_n C dX5_strikes_74 2 rfl ?_
              refine v_bipush C (-9) dX5_strikes_75 (by decide) ?_
              refine v_icmp_eq C 86 dX5_strikes_77 (by decide) (fun c32 => ?_) (fun c32 => ?_)
              · refine v_iload C dX5_strikes_86 1 rfl ?_
                refine v_istore_n C [(3, .int (nI j)), (5, .int (mbF (fun yx => (sitS nj n_kd n_ag yx wl dn n_fr n_we n_mi s0 (fun p => p) nc).2.2.2.2.1) (set1 st j) nj)), (4, .int (nI j)), (2, .int le), (0, .ref (b 0)), (1, .int x)] dX5_strikes_88 (by decide) rfl ?_
                refine v_iload C dX5_strikes_89 1 rfl ?_
                refine v_istore_n C [(2, .int (mbF (fun yx => (sitS nj n_kd n_ag yx wl dn n_fr n_we n_mi s0 (fun p => p) nc).2.2.2.2.1) (set1 st j) nj)), (3, .int (nI j)), (5, .int (mbF (fun yx => (sitS nj n_kd n_ag yx wl dn n_fr n_we n_mi s0 (fun p => p) nc).2.2.2.2.1) (set1 st j) nj)), (4, .int (nI j)), (0, .ref (b 0)), (1, .int x)] dX5_strikes_91 (by decide) rfl ?_
                refine v_iinc C (nI (j + 1)) [(4, .int (nI (j + 1))), (2, .int (mbF (fun yx => (sitS nj n_kd n_ag yx wl dn n_fr n_we n_mi s0 (fun p => p) nc).2.2.2.2.1) (set1 st j) nj)), (3, .int (nI j)), (5, .int (mbF (fun yx => (sitS nj n_kd n_ag yx wl dn n_fr n_we n_mi s0 (fun p => p) nc).2.2.2.2.1) (set1 st j) nj)), (0, .ref (b 0)), (1, .int x)] 3 dX5_strikes_92 rfl (nI_inc _) (by decide) rfl ?_
                refine v_goto C 33 dX5_strikes_95 (by decide) ?_
                refine v_loc [0, 2, 1, 4, 5] (lv' := [(4, .int (nI (j + 1))), (3, .int (nI j)), (2, .int (mbF (fun yx => (sitS nj n_kd n_ag yx wl dn n_fr n_we n_mi s0 (fun p => p) nc).2.2.2.2.1) (set1 st j) nj)), (0, .ref (b 0)), (1, .int x)]) rfl ?_
                exact ihn_18 (j + 1) (nI j) (mbF (fun yx => (sitS nj n_kd n_ag yx wl dn n_fr n_we n_mi s0 (fun p => p) nc).2.2.2.2.1) (set1 st j) nj) (mbF (fun yx => (sitS nj n_kd n_ag yx wl dn n_fr n_we n_mi s0 (fun p => p) nc).2.2.2.2.1) (set1 st j) nj) nw'_25 ov'_26 ho'_27 vd'_28 iE'_29 rl'_30 rw'_31 (by omega) (by omega) (by rw [skS, if_neg (by rw [hb]; decide), hsk]; rw [if_pos (Or.inl c32)]) (by rw [if_neg (nI_ne9 (by omega))])
              · refine v_iload C dX5_strikes_80 0 rfl ?_
                refine v_iload_n C dX5_strikes_82 3 rfl ?_
                refine v_icmp_ge C 92 dX5_strikes_83 (by decide) (fun c33 => ?_) (fun c33 => ?_)
                · refine v_iinc C (nI (j + 1)) [(4, .int (nI (j + 1))), (5, .int (mbF (fun yx => (sitS nj n_kd n_ag yx wl dn n_fr n_we n_mi s0 (fun p => p) nc).2.2.2.2.1) (set1 st j) nj)), (3, .int his), (2, .int le), (0, .ref (b 0)), (1, .int x)] 1 dX5_strikes_92 rfl (nI_inc _) (by decide) rfl ?_
                  refine v_goto C 33 dX5_strikes_95 (by decide) ?_
                  refine v_loc [0, 2, 3, 4, 5] (lv' := [(4, .int (nI (j + 1))), (3, .int his), (2, .int le), (0, .ref (b 0)), (1, .int x)]) rfl ?_
                  have hl2 : le = lea := by rw [hle, if_neg c32]
                  exact ihn_18 (j + 1) his lea le nw'_25 ov'_26 ho'_27 vd'_28 iE'_29 rl'_30 rw'_31 (by omega) (by omega) (by rw [skS, if_neg (by rw [hb]; decide), hsk]; rw [if_neg (fun q => q.elim (fun q => c32 q) (fun q => q (by rw [← hl2]; exact c33)))]) hle
                · refine v_iload C dX5_strikes_86 1 rfl ?_
                  refine v_istore_n C [(3, .int (nI j)), (5, .int (mbF (fun yx => (sitS nj n_kd n_ag yx wl dn n_fr n_we n_mi s0 (fun p => p) nc).2.2.2.2.1) (set1 st j) nj)), (4, .int (nI j)), (2, .int le), (0, .ref (b 0)), (1, .int x)] dX5_strikes_88 (by decide) rfl ?_
                  refine v_iload C dX5_strikes_89 1 rfl ?_
                  refine v_istore_n C [(2, .int (mbF (fun yx => (sitS nj n_kd n_ag yx wl dn n_fr n_we n_mi s0 (fun p => p) nc).2.2.2.2.1) (set1 st j) nj)), (3, .int (nI j)), (5, .int (mbF (fun yx => (sitS nj n_kd n_ag yx wl dn n_fr n_we n_mi s0 (fun p => p) nc).2.2.2.2.1) (set1 st j) nj)), (4, .int (nI j)), (0, .ref (b 0)), (1, .int x)] dX5_strikes_91 (by decide) rfl ?_
                  refine v_iinc C (nI (j + 1)) [(4, .int (nI (j + 1))), (2, .int (mbF (fun yx => (sitS nj n_kd n_ag yx wl dn n_fr n_we n_mi s0 (fun p => p) nc).2.2.2.2.1) (set1 st j) nj)), (3, .int (nI j)), (5, .int (mbF (fun yx => (sitS nj n_kd n_ag yx wl dn n_fr n_we n_mi s0 (fun p => p) nc).2.2.2.2.1) (set1 st j) nj)), (0, .ref (b 0)), (1, .int x)] 3 dX5_strikes_92 rfl (nI_inc _) (by decide) rfl ?_
                  refine v_goto C 33 dX5_strikes_95 (by decide) ?_
                  refine v_loc [0, 2, 1, 4, 5] (lv' := [(4, .int (nI (j + 1))), (3, .int (nI j)), (2, .int (mbF (fun yx => (sitS nj n_kd n_ag yx wl dn n_fr n_we n_mi s0 (fun p => p) nc).2.2.2.2.1) (set1 st j) nj)), (0, .ref (b 0)), (1, .int x)]) rfl ?_
                  have hl2 : le = lea := by rw [hle, if_neg c32]
                  exact ihn_18 (j + 1) (nI j) (mbF (fun yx => (sitS nj n_kd n_ag yx wl dn n_fr n_we n_mi s0 (fun p => p) nc).2.2.2.2.1) (set1 st j) nj) (mbF (fun yx => (sitS nj n_kd n_ag yx wl dn n_fr n_we n_mi s0 (fun p => p) nc).2.2.2.2.1) (set1 st j) nj) nw'_25 ov'_26 ho'_27 vd'_28 iE'_29 rl'_30 rw'_31 (by omega) (by omega) (by rw [skS, if_neg (by rw [hb]; decide), hsk]; rw [if_pos (Or.inr (by rw [← hl2]; exact c33))]) (by rw [if_neg (nI_ne9 (by omega))])
      exact lp (nj - 0 + 1) 0 (-9) 0 ((sitS nj n_kd n_ag st wl dn n_fr n_we n_mi s0 (fun p => p) nc).2.2.2.2.1) nw_9 ov_10 ho_11 vd_12 iE_13 rl_14 rw_15 (by omega) (by omega) rfl rfl
    · have nc4 : nc = 0 := nI_eqP c4 (by omega) (by omega)
      have zc34 : nI nc ≤ 0 := by rw [nc0 hnc]; exact nc4
      refine v_bipush C (-3) dX5_strikes_19 (by decide) ?_
      exact v_reti C hA dX5_strikes_21 rfl (⟨_, _, _, _, _, _, _, by first | (simp only [skF, bI, c3, c4, nc4, nc4, zc34, not_false_eq_true, not_true_eq_false, and_self, and_true, true_and, and_false, false_and, ↓reduceIte]; done) | (simp only [skF, bI, c3, c4, nc4, nc4, zc34, not_false_eq_true, not_true_eq_false, and_self, and_true, true_and, and_false, false_and, ↓reduceIte]; rfl) | (simp [skF, bI, c3, c4, nc4, nc4, zc34]; done) | rfl, by first | (simp only [skF, bI, c3, c4, nc4, nc4, zc34, not_false_eq_true, not_true_eq_false, and_self, and_true, true_and, and_false, false_and, ↓reduceIte]; done) | (simp only [skF, bI, c3, c4, nc4, nc4, zc34, not_false_eq_true, not_true_eq_false, and_self, and_true, true_and, and_false, false_and, ↓reduceIte]; rfl) | (simp [skF, bI, c3, c4, nc4, nc4, zc34]; done) | rfl⟩)
  · refine v_eqi 0 (bI_f c3) ?_
    rw [wib_1] at c3
    refine v_if_ne C 12 dX5_strikes_6 (by decide) (fun h => absurd h (by decide)) (fun _ => ?_)
    refine v_bipush C (-2) dX5_strikes_9 (by decide) ?_
    exact v_reti C hA dX5_strikes_11 rfl (⟨_, _, _, _, _, _, _, by first | (simp only [skF, bI, c3, not_false_eq_true, not_true_eq_false, and_self, and_true, true_and, and_false, false_and, ↓reduceIte]; done) | (simp only [skF, bI, c3, not_false_eq_true, not_true_eq_false, and_self, and_true, true_and, and_false, false_and, ↓reduceIte]; rfl) | (simp [skF, bI, c3]; done) | rfl, by first | (simp only [skF, bI, c3, not_false_eq_true, not_true_eq_false, and_self, and_true, true_and, and_false, false_and, ↓reduceIte]; done) | (simp only [skF, bI, c3, not_false_eq_true, not_true_eq_false, and_self, and_true, true_and, and_false, false_and, ↓reduceIte]; rfl) | (simp [skF, bI, c3]; done) | rfl⟩)
