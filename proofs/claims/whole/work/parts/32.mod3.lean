theorem ix_lt {k : Int32} {n : Nat} (hn : n < 2 ^ 31) (h : ¬ k < 0 ∧ k < nI n) : ∃ j, j < n ∧ k = nI j := ix_of hn (Int32.not_lt.mp h.1) h.2
theorem le_lt1 (x : Int32) (n : Nat) (hn : n < 100) : ¬ nI n < x ↔ x < nI (n + 1) := by
  rw [Int32.lt_iff_toInt_lt, Int32.lt_iff_toInt_lt, nI_toInt (by omega), nI_toInt (by omega)]
  omega
theorem wib_64 (x : Int32) : wib x 0 63 = true ↔ ¬ x < 0 ∧ x < 64 := by rw [wib_iff]; exact and_congr Iff.rfl (le_lt1 x 63 (by omega))
theorem wib_3 (x : Int32) : wib x 0 2 = true ↔ ¬ x < 0 ∧ x < 3 := by rw [wib_iff]; exact and_congr Iff.rfl (le_lt1 x 2 (by omega))
theorem wib_le (x a b : Int32) : wib x a b = true ↔ ¬ x < a ∧ x ≤ b := by rw [wib_iff, Int32.not_lt (a := b)]
theorem wib_60 (x : Int32) : wib x 5 60 = true ↔ ¬ x < 5 ∧ x ≤ 60 := wib_le x 5 60
theorem wib_2 (x : Int32) : wib x 0 2 = true ↔ ¬ x < 0 ∧ x ≤ 2 := wib_le x 0 2
theorem wib_1 (x : Int32) : wib x 0 1 = true ↔ ¬ x < 0 ∧ x ≤ 1 := wib_le x 0 1
theorem wib_m (x : Int32) : wib x 0 60 = true ↔ ¬ x < 0 ∧ x ≤ 60 := wib_le x 0 60
theorem wib_0 (x n : Int32) : wib x 0 n = true ↔ ¬ x < 0 ∧ x ≤ n := wib_le x 0 n
theorem nc0 {n : Nat} (hn : n ≤ 5) : nI n ≤ 0 ↔ n = 0 := by
  constructor
  · intro h
    have := nI_leD (a := 0) (b := n) h (by omega)
    omega
  · rintro rfl
    decide
theorem nI_s1 (n : Nat) : nI (n + 1) - 1 = nI n := pk_sub (a := n + 1) (b := 1) (by omega)
theorem wb_1 : ∀ {m : Nat}, m < 64 → ∀ {j : Nat}, j < 6 → (wbN m j 1 = m ↔ bA m j = 1) := by decide +kernel
theorem wb_0 : ∀ {m : Nat}, m < 64 → ∀ {j : Nat}, j < 6 → (wbN m j 0 = m ↔ bA m j = 0) := by decide +kernel
theorem two_x (x : Int32) : 2 * x + 100 = x + 100 + x := by
  have : (2 : Int32) * x = x + x := by
    rw [show (2 : Int32) = 1 + 1 from rfl, Int32.add_mul, Int32.one_mul]
  rw [this, Int32.add_assoc, Int32.add_comm x 100, ← Int32.add_assoc, Int32.add_comm x 100]
theorem bA_vp (m j : Nat) : vp_nar .boolean (bA m j) = bA m j := bI_vp _
set_option maxHeartbeats 4000000 in
set_option maxRecDepth 100000 in
theorem m_X5_many {l : Launch} {D : va_G} {cI cB cS : ClassId} (b : Nat → Nat) (nj nc wl s0 st nr : Nat) (n_fa : Int32) (n_tr : Int32) (n_mi : Int32) (n_at : Int32) (n_rm : Int32) (n_rj : Int32) (n_rc : Int32) (n_nw : Int32) (n_ov : Int32) (n_rl : Int32) (x : Int32) (hnj : nj ≤ 5) (hnc : nc ≤ 5) (hwl : wl < 64) (hs0 : s0 < 2 ^ nj) (hst2 : st < 2 ^ nj) (hp5 : 2 ^ nj ≤ 32) (hnr : nr ≤ 8) : Mi l yX5_many cX5_many 2 (some .int) 0 0 D cI cB cS [.ref (b 0), .int x] [oN b n_fa n_tr n_mi (nI nj) (nI nc) (nI wl) n_at n_rm n_rj n_rc n_nw n_ov n_rl (nI nr)] (fun r w => r = maF nj nc n_mi wl nr x ∧ w = [oN b n_fa n_tr n_mi (nI nj) (nI nc) (nI wl) n_at n_rm n_rj n_rc n_nw n_ov n_rl (nI nr)]) := by
  refine Mi.of (by decide) (Nat.le_of_ble_eq_true rfl) ?_
  intro zp ze zs zm zb zt zc zz zA hA C hnm
  refine v_lv0 [(0, .ref (b 0)), (1, .int x)] rfl ?_
  refine v_iload_n C dX5_many_0 1 rfl ?_
  by_cases e1 : x = 0
  · refine v_tableIn C 36 dX5_many_1 (by rw [e1]; decide) (by rw [e1]; decide) (by rw [e1] <;> rfl) (by decide) ?_
    refine v_aload_n C dX5_many_36 0 rfl ?_
    refine v_get C f_X5_81 dX5_many_37 0 rfl rfl ?_
    exact v_reti C hA dX5_many_40 rfl (⟨by first | (simp only [maF, bI, e1, not_false_eq_true, not_true_eq_false, and_self, and_true, true_and, and_false, false_and, ↓reduceIte]; done) | (simp only [maF, bI, e1, not_false_eq_true, not_true_eq_false, and_self, and_true, true_and, and_false, false_and, ↓reduceIte]; rfl) | (simp [maF, bI, e1]; done) | rfl, by first | (simp only [maF, bI, e1, not_false_eq_true, not_true_eq_false, and_self, and_true, true_and, and_false, false_and, ↓reduceIte]; done) | (simp only [maF, bI, e1, not_false_eq_true, not_true_eq_false, and_self, and_true, true_and, and_false, false_and, ↓reduceIte]; rfl) | (simp [maF, bI, e1]; done) | rfl⟩)
  by_cases e2 : x = 1
  · refine v_tableIn C 41 dX5_many_1 (by rw [e2]; decide) (by rw [e2]; decide) (by rw [e2] <;> rfl) (by decide) ?_
    refine v_aload_n C dX5_many_41 0 rfl ?_
    refine v_get C f_X5_78 dX5_many_42 0 rfl rfl ?_
    exact v_reti C hA dX5_many_45 rfl (⟨by first | (simp only [maF, bI, e2, e1, not_false_eq_true, not_true_eq_false, and_self, and_true, true_and, and_false, false_and, ↓reduceIte]; done) | (simp only [maF, bI, e2, e1, not_false_eq_true, not_true_eq_false, and_self, and_true, true_and, and_false, false_and, ↓reduceIte]; rfl) | (simp [maF, bI, e2, e1]; done) | rfl, by first | (simp only [maF, bI, e2, e1, not_false_eq_true, not_true_eq_false, and_self, and_true, true_and, and_false, false_and, ↓reduceIte]; done) | (simp only [maF, bI, e2, e1, not_false_eq_true, not_true_eq_false, and_self, and_true, true_and, and_false, false_and, ↓reduceIte]; rfl) | (simp [maF, bI, e2, e1]; done) | rfl⟩)
  by_cases e3 : x = 2
  · refine v_tableIn C 46 dX5_many_1 (by rw [e3]; decide) (by rw [e3]; decide) (by rw [e3] <;> rfl) (by decide) ?_
    refine v_aload_n C dX5_many_46 0 rfl ?_
    refine v_get C f_X5_108 dX5_many_47 0 rfl rfl ?_
    exact v_reti C hA dX5_many_50 rfl (⟨by first | (simp only [maF, bI, e3, e1, e2, not_false_eq_true, not_true_eq_false, and_self, and_true, true_and, and_false, false_and, ↓reduceIte]; done) | (simp only [maF, bI, e3, e1, e2, not_false_eq_true, not_true_eq_false, and_self, and_true, true_and, and_false, false_and, ↓reduceIte]; rfl) | (simp [maF, bI, e3, e1, e2]; done) | rfl, by first | (simp only [maF, bI, e3, e1, e2, not_false_eq_true, not_true_eq_false, and_self, and_true, true_and, and_false, false_and, ↓reduceIte]; done) | (simp only [maF, bI, e3, e1, e2, not_false_eq_true, not_true_eq_false, and_self, and_true, true_and, and_false, false_and, ↓reduceIte]; rfl) | (simp [maF, bI, e3, e1, e2]; done) | rfl⟩)
  by_cases e4 : x = 3
  · refine v_tableIn C 51 dX5_many_1 (by rw [e4]; decide) (by rw [e4]; decide) (by rw [e4] <;> rfl) (by decide) ?_
    refine v_aload_n C dX5_many_51 0 rfl ?_
    refine v_get C f_X5_117 dX5_many_52 0 rfl rfl ?_
    exact v_reti C hA dX5_many_55 rfl (⟨by first | (simp only [maF, bI, e4, e1, e2, e3, not_false_eq_true, not_true_eq_false, and_self, and_true, true_and, and_false, false_and, ↓reduceIte]; done) | (simp only [maF, bI, e4, e1, e2, e3, not_false_eq_true, not_true_eq_false, and_self, and_true, true_and, and_false, false_and, ↓reduceIte]; rfl) | (simp [maF, bI, e4, e1, e2, e3]; done) | rfl, by first | (simp only [maF, bI, e4, e1, e2, e3, not_false_eq_true, not_true_eq_false, and_self, and_true, true_and, and_false, false_and, ↓reduceIte]; done) | (simp only [maF, bI, e4, e1, e2, e3, not_false_eq_true, not_true_eq_false, and_self, and_true, true_and, and_false, false_and, ↓reduceIte]; rfl) | (simp [maF, bI, e4, e1, e2, e3]; done) | rfl⟩)
  by_cases e5 : x = 4
  · refine v_tableIn C 56 dX5_many_1 (by rw [e5]; decide) (by rw [e5]; decide) (by rw [e5] <;> rfl) (by decide) ?_
    refine v_aload_n C dX5_many_56 0 rfl ?_
    refine v_get C f_X5_120 dX5_many_57 0 rfl rfl ?_
    exact v_reti C hA dX5_many_60 rfl (⟨by first | (simp only [maF, bI, e5, e1, e2, e3, e4, not_false_eq_true, not_true_eq_false, and_self, and_true, true_and, and_false, false_and, ↓reduceIte]; done) | (simp only [maF, bI, e5, e1, e2, e3, e4, not_false_eq_true, not_true_eq_false, and_self, and_true, true_and, and_false, false_and, ↓reduceIte]; rfl) | (simp [maF, bI, e5, e1, e2, e3, e4]; done) | rfl, by first | (simp only [maF, bI, e5, e1, e2, e3, e4, not_false_eq_true, not_true_eq_false, and_self, and_true, true_and, and_false, false_and, ↓reduceIte]; done) | (simp only [maF, bI, e5, e1, e2, e3, e4, not_false_eq_true, not_true_eq_false, and_self, and_true, true_and, and_false, false_and, ↓reduceIte]; rfl) | (simp [maF, bI, e5, e1, e2, e3, e4]; done) | rfl⟩)
  refine v_tableOut C 61 dX5_many_1 (tab_out5 e1 e2 e3 e4 e5) (by decide) ?_
  refine v_bipush C (-2) dX5_many_61 (by decide) ?_
  exact v_reti C hA dX5_many_63 rfl (⟨by first | (simp only [maF, bI, e1, e2, e3, e4, e5, not_false_eq_true, not_true_eq_false, and_self, and_true, true_and, and_false, false_and, ↓reduceIte]; done) | (simp only [maF, bI, e1, e2, e3, e4, e5, not_false_eq_true, not_true_eq_false, and_self, and_true, true_and, and_false, false_and, ↓reduceIte]; rfl) | (simp [maF, bI, e1, e2, e3, e4, e5]; done) | rfl, by first | (simp only [maF, bI, e1, e2, e3, e4, e5, not_false_eq_true, not_true_eq_false, and_self, and_true, true_and, and_false, false_and, ↓reduceIte]; done) | (simp only [maF, bI, e1, e2, e3, e4, e5, not_false_eq_true, not_true_eq_false, and_self, and_true, true_and, and_false, false_and, ↓reduceIte]; rfl) | (simp [maF, bI, e1, e2, e3, e4, e5]; done) | rfl⟩)
set_option maxHeartbeats 4000000 in
set_option maxRecDepth 100000 in
theorem m_X5_fault {l : Launch} {D : va_G} {cI cB cS : ClassId} (b : Nat → Nat) (nj nc wl s0 st nr : Nat) (n_fa : Int32) (n_tr : Int32) (n_mi : Int32) (n_at : Int32) (n_rm : Int32) (n_rj : Int32) (n_rc : Int32) (n_nw : Int32) (n_ov : Int32) (n_rl : Int32) (hnj : nj ≤ 5) (hnc : nc ≤ 5) (hwl : wl < 64) (hs0 : s0 < 2 ^ nj) (hst2 : st < 2 ^ nj) (hp5 : 2 ^ nj ≤ 32) (hnr : nr ≤ 8) : Mi l yX5_fault cX5_fault 1 (some .int) 0 0 D cI cB cS [.ref (b 0)] [oN b n_fa n_tr n_mi (nI nj) (nI nc) (nI wl) n_at n_rm n_rj n_rc n_nw n_ov n_rl (nI nr)] (fun r w => r = n_fa ∧ w = [oN b n_fa n_tr n_mi (nI nj) (nI nc) (nI wl) n_at n_rm n_rj n_rc n_nw n_ov n_rl (nI nr)]) := by
  refine Mi.of (by decide) (Nat.le_of_ble_eq_true rfl) ?_
  intro zp ze zs zm zb zt zc zz zA hA C hnm
  refine v_lv0 [(0, .ref (b 0))] rfl ?_
  refine v_aload_n C dX5_fault_0 0 rfl ?_
  refine v_get C f_X5_68 dX5_fault_1 0 rfl rfl ?_
  exact v_reti C hA dX5_fault_4 rfl (⟨by first | (simp only [id, bI, not_false_eq_true, not_true_eq_false, and_self, and_true, true_and, and_false, false_and, ↓reduceIte]; done) | (simp only [id, bI, not_false_eq_true, not_true_eq_false, and_self, and_true, true_and, and_false, false_and, ↓reduceIte]; rfl) | (simp [id, bI, ]; done) | rfl, by first | (simp only [id, bI, not_false_eq_true, not_true_eq_false, and_self, and_true, true_and, and_false, false_and, ↓reduceIte]; done) | (simp only [id, bI, not_false_eq_true, not_true_eq_false, and_self, and_true, true_and, and_false, false_and, ↓reduceIte]; rfl) | (simp [id, bI, ]; done) | rfl⟩)
set_option maxHeartbeats 4000000 in
set_option maxRecDepth 100000 in
theorem m_X5_trace {l : Launch} {D : va_G} {cI cB cS : ClassId} (b : Nat → Nat) (nj nc wl s0 st nr : Nat) (n_fa : Int32) (n_tr : Int32) (n_mi : Int32) (n_at : Int32) (n_rm : Int32) (n_rj : Int32) (n_rc : Int32) (n_nw : Int32) (n_ov : Int32) (n_rl : Int32) (hnj : nj ≤ 5) (hnc : nc ≤ 5) (hwl : wl < 64) (hs0 : s0 < 2 ^ nj) (hst2 : st < 2 ^ nj) (hp5 : 2 ^ nj ≤ 32) (hnr : nr ≤ 8) : Mi l yX5_trace cX5_trace 1 (some .int) 0 0 D cI cB cS [.ref (b 0)] [oN b n_fa n_tr n_mi (nI nj) (nI nc) (nI wl) n_at n_rm n_rj n_rc n_nw n_ov n_rl (nI nr)] (fun r w => r = n_tr ∧ w = [oN b n_fa n_tr n_mi (nI nj) (nI nc) (nI wl) n_at n_rm n_rj n_rc n_nw n_ov n_rl (nI nr)]) := by
  refine Mi.of (by decide) (Nat.le_of_ble_eq_true rfl) ?_
  intro zp ze zs zm zb zt zc zz zA hA C hnm
  refine v_lv0 [(0, .ref (b 0))] rfl ?_
  refine v_aload_n C dX5_trace_0 0 rfl ?_
  refine v_get C f_X5_234 dX5_trace_1 0 rfl rfl ?_
  exact v_reti C hA dX5_trace_4 rfl (⟨by first | (simp only [id, bI, not_false_eq_true, not_true_eq_false, and_self, and_true, true_and, and_false, false_and, ↓reduceIte]; done) | (simp only [id, bI, not_false_eq_true, not_true_eq_false, and_self, and_true, true_and, and_false, false_and, ↓reduceIte]; rfl) | (simp [id, bI, ]; done) | rfl, by first | (simp only [id, bI, not_false_eq_true, not_true_eq_false, and_self, and_true, true_and, and_false, false_and, ↓reduceIte]; done) | (simp only [id, bI, not_false_eq_true, not_true_eq_false, and_self, and_true, true_and, and_false, false_and, ↓reduceIte]; rfl) | (simp [id, bI, ]; done) | rfl⟩)
set_option maxHeartbeats 4000000 in
set_option maxRecDepth 100000 in
theorem m_X5_ofJuror {l : Launch} {D : va_G} {cI cB cS : ClassId} (b : Nat → Nat) (nj nc wl s0 st nr : Nat) (n_fa : Int32) (n_tr : Int32) (n_mi : Int32) (n_at : Int32) (n_rm : Int32) (n_rj : Int32) (n_rc : Int32) (n_nw : Int32) (n_ov : Int32) (n_rl : Int32) (n_kd : Nat → Int32) (n_ag : Nat → Int32) (n_hS : Nat → Int32) (n_iS : Nat → Int32) (j : Int32) (x : Int32) (hnj : nj ≤ 5) (hnc : nc ≤ 5) (hwl : wl < 64) (hs0 : s0 < 2 ^ nj) (hst2 : st < 2 ^ nj) (hp5 : 2 ^ nj ≤ 32) (hnr : nr ≤ 8) (hhS : ∀ j, j < nj → n_hS j = bA s0 j) (hiS : ∀ j, j < nj → n_iS j = bA st j) : Mi l yX5_ofJuror cX5_ofJuror 3 (some .int) 1 21 D cI cB cS [.ref (b 0), .int j, .int x] [oN b n_fa n_tr n_mi (nI nj) (nI nc) (nI wl) n_at n_rm n_rj n_rc n_nw n_ov n_rl (nI nr), ia (b 9) cI 5 n_kd, ia (b 10) cI 5 n_ag, ia (b 11) cB 5 n_hS, ia (b 12) cB 5 n_iS] (fun r w => r = ojF nj n_kd n_ag s0 st j x ∧ w = [oN b n_fa n_tr n_mi (nI nj) (nI nc) (nI wl) n_at n_rm n_rj n_rc n_nw n_ov n_rl (nI nr), ia (b 9) cI 5 n_kd, ia (b 10) cI 5 n_ag, ia (b 11) cB 5 n_hS, ia (b 12) cB 5 n_iS]) := by
  refine Mi.of (by decide) (Nat.le_of_ble_eq_true rfl) ?_
  intro zp ze zs zm zb zt zc zz zA hA C hnm
  refine v_lv0 [(0, .ref (b 0)), (1, .int j), (2, .int x)] rfl ?_
  refine v_aload_n C dX5_ofJuror_0 0 rfl ?_
  refine v_iload_n C dX5_ofJuror_1 1 rfl ?_
  refine v_callRi C l_X5_140 (m_X5_isJuror b n_fa n_tr n_mi (nI nj) (nI nc) (nI wl) n_at n_rm n_rj n_rc n_nw n_ov n_rl (nI nr) j) (by decide) dX5_ofJuror_2 [0] rfl 0 rfl rfl rfl (rest := []) rfl (Nat.le_of_ble_eq_true rfl) (by decide) (fun r1 h2 => ?_)
  subst h2
  by_cases c3 : ¬ j < 0 ∧ ¬ (nI nj) ≤ j
  · refine v_eqi 1 (bI_t c3) ?_
    obtain ⟨jN, hjN, rfl⟩ := ix_of' (by omega) c3
    have zjN : (nI jN).toNatClampNeg = jN := nI_clamp (by omega)
    refine v_if_ne C 10 dX5_ofJuror_5 (by decide) (fun _ => ?_) (fun h => absurd h (by decide))
    refine v_iload_n C dX5_ofJuror_10 2 rfl ?_
    by_cases e4 : x = 0
    · refine v_tableIn C 40 dX5_ofJuror_11 (by rw [e4]; decide) (by rw [e4]; decide) (by rw [e4] <;> rfl) (by decide) ?_
      refine v_aload_n C dX5_ofJuror_40 0 rfl ?_
      refine v_get C f_X5_19 dX5_ofJuror_41 0 rfl rfl ?_
      refine v_iload_n C dX5_ofJuror_44 1 rfl ?_
      refine v_ialdN C dX5_ofJuror_45 1 rfl jN rfl (by omega) (by decide) ?_
      exact v_reti C hA dX5_ofJuror_46 rfl (⟨by first | (simp only [ojF, bI, zjN, c3, e4, not_false_eq_true, not_true_eq_false, and_self, and_true, true_and, and_false, false_and, ↓reduceIte]; done) | (simp only [ojF, bI, zjN, c3, e4, not_false_eq_true, not_true_eq_false, and_self, and_true, true_and, and_false, false_and, ↓reduceIte]; rfl) | (simp [ojF, bI, zjN, c3, e4]; done) | rfl, by first | (simp only [ojF, bI, zjN, c3, e4, not_false_eq_true, not_true_eq_false, and_self, and_true, true_and, and_false, false_and, ↓reduceIte]; done) | (simp only [ojF, bI, zjN, c3, e4, not_false_eq_true, not_true_eq_false, and_self, and_true, true_and, and_false, false_and, ↓reduceIte]; rfl) | (simp [ojF, bI, zjN, c3, e4]; done) | rfl⟩)
    by_cases e5 : x = 1
    · refine v_tableIn C 47 dX5_ofJuror_11 (by rw [e5]; decide) (by rw [e5]; decide) (by rw [e5] <;> rfl) (by decide) ?_
      refine v_aload_n C dX5_ofJuror_47 0 rfl ?_
      refine v_get C f_X5_22 dX5_ofJuror_48 0 rfl rfl ?_
      refine v_iload_n C dX5_ofJuror_51 1 rfl ?_
      refine v_ialdN C dX5_ofJuror_52 2 rfl jN rfl (by omega) (by decide) ?_
      exact v_reti C hA dX5_ofJuror_53 rfl (⟨by first | (simp only [ojF, bI, zjN, c3, e5, e4, not_false_eq_true, not_true_eq_false, and_self, and_true, true_and, and_false, false_and, ↓reduceIte]; done) | (simp only [ojF, bI, zjN, c3, e5, e4, not_false_eq_true, not_true_eq_false, and_self, and_true, true_and, and_false, false_and, ↓reduceIte]; rfl) | (simp [ojF, bI, zjN, c3, e5, e4]; done) | rfl, by first | (simp only [ojF, bI, zjN, c3, e5, e4, not_false_eq_true, not_true_eq_false, and_self, and_true, true_and, and_false, false_and, ↓reduceIte]; done) | (simp only [ojF, bI, zjN, c3, e5, e4, not_false_eq_true, not_true_eq_false, and_self, and_true, true_and, and_false, false_and, ↓reduceIte]; rfl) | (simp [ojF, bI, zjN, c3, e5, e4]; done) | rfl⟩)
    by_cases e6 : x = 2
    · refine v_tableIn C 54 dX5_ofJuror_11 (by rw [e6]; decide) (by rw [e6]; decide) (by rw [e6] <;> rfl) (by decide) ?_
      refine v_aload_n C dX5_ofJuror_54 0 rfl ?_
      refine v_get C f_X5_25 dX5_ofJuror_55 0 rfl rfl ?_
      refine v_iload_n C dX5_ofJuror_58 1 rfl ?_
      refine v_zaldN C dX5_ofJuror_59 3 rfl jN rfl (by omega) (by decide) ?_
      refine v_eqi (bA s0 jN) (hhS jN hjN) ?_
      refine v_if_eq C 67 dX5_ofJuror_60 (by decide) (fun c7 => ?_) (fun c7 => ?_)
      · have zb8 : s0.testBit jN = false := bA_0.mp c7
        refine v_iconst C 0 dX5_ofJuror_67 (by decide) ?_
        exact v_reti C hA dX5_ofJuror_68 rfl (⟨by first | (simp only [ojF, bI, zjN, c3, e6, c7, zb8, e4, e5, not_false_eq_true, not_true_eq_false, and_self, and_true, true_and, and_false, false_and, ↓reduceIte]; done) | (simp only [ojF, bI, zjN, c3, e6, c7, zb8, e4, e5, not_false_eq_true, not_true_eq_false, and_self, and_true, true_and, and_false, false_and, ↓reduceIte]; rfl) | (simp [ojF, bI, zjN, c3, e6, c7, zb8, e4, e5]; done) | rfl, by first | (simp only [ojF, bI, zjN, c3, e6, c7, zb8, e4, e5, not_false_eq_true, not_true_eq_false, and_self, and_true, true_and, and_false, false_and, ↓reduceIte]; done) | (simp only [ojF, bI, zjN, c3, e6, c7, zb8, e4, e5, not_false_eq_true, not_true_eq_false, and_self, and_true, true_and, and_false, false_and, ↓reduceIte]; rfl) | (simp [ojF, bI, zjN, c3, e6, c7, zb8, e4, e5]; done) | rfl⟩)
      · have zb9 : s0.testBit jN = true := bA_n.mp c7
        refine v_iconst C 1 dX5_ofJuror_63 (by decide) ?_
        refine v_goto C 68 dX5_ofJuror_64 (by decide) ?_
        exact v_reti C hA dX5_ofJuror_68 rfl (⟨by first | (simp only [ojF, bI, zjN, c3, e6, c7, zb9, e4, e5, not_false_eq_true, not_true_eq_false, and_self, and_true, true_and, and_false, false_and, ↓reduceIte]; done) | (simp only [ojF, bI, zjN, c3, e6, c7, zb9, e4, e5, not_false_eq_true, not_true_eq_false, and_self, and_true, true_and, and_false, false_and, ↓reduceIte]; rfl) | (simp [ojF, bI, zjN, c3, e6, c7, zb9, e4, e5]; done) | rfl, by first | (simp only [ojF, bI, zjN, c3, e6, c7, zb9, e4, e5, not_false_eq_true, not_true_eq_false, and_self, and_true, true_and, and_false, false_and, ↓reduceIte]; done) | (simp only [ojF, bI, zjN, c3, e6, c7, zb9, e4, e5, not_false_eq_true, not_true_eq_false, and_self, and_true, true_and, and_false, false_and, ↓reduceIte]; rfl) | (simp [ojF, bI, zjN, c3, e6, c7, zb9, e4, e5]; done) | rfl⟩)
    by_cases e10 : x = 3
    · refine v_tableIn C 69 dX5_ofJuror_11 (by rw [e10]; decide) (by rw [e10]; decide) (by rw [e10] <;> rfl) (by decide) ?_
      refine v_aload_n C dX5_ofJuror_69 0 rfl ?_
      refine v_get C f_X5_29 dX5_ofJuror_70 0 rfl rfl ?_
      refine v_iload_n C dX5_ofJuror_73 1 rfl ?_
      refine v_zaldN C dX5_ofJuror_74 4 rfl jN rfl (by omega) (by decide) ?_
      refine v_eqi (bA st jN) (hiS jN hjN) ?_
      refine v_if_eq C 82 dX5_ofJuror_75 (by decide) (fun c11 => ?_) (fun c11 => ?_)
      · have zb12 : st.testBit jN = false := bA_0.mp c11
        refine v_iconst C 0 dX5_ofJuror_82 (by decide) ?_
        exact v_reti C hA dX5_ofJuror_83 rfl (⟨by first | (simp only [ojF, bI, zjN, c3, e10, c11, zb12, e4, e5, e6, not_false_eq_true, not_true_eq_false, and_self, and_true, true_and, and_false, false_and, ↓reduceIte]; done) | (simp only [ojF, bI, zjN, c3, e10, c11, zb12, e4, e5, e6, not_false_eq_true, not_true_eq_false, and_self, and_true, true_and, and_false, false_and, ↓reduceIte]; rfl) | (simp [ojF, bI, zjN, c3, e10, c11, zb12, e4, e5, e6]; done) | rfl, by first | (simp only [ojF, bI, zjN, c3, e10, c11, zb12, e4, e5, e6, not_false_eq_true, not_true_eq_false, and_self, and_true, true_and, and_false, false_and, ↓reduceIte]; done) | (simp only [ojF, bI, zjN, c3, e10, c11, zb12, e4, e5, e6, not_false_eq_true, not_true_eq_false, and_self, and_true, true_and, and_false, false_and, ↓reduceIte]; rfl) | (simp [ojF, bI, zjN, c3, e10, c11, zb12, e4, e5, e6]; done) | rfl⟩)
      · have zb13 : st.testBit jN = true := bA_n.mp c11
        refine v_iconst C 1 dX5_ofJuror_78 (by decide) ?_
        refine v_goto C 83 dX5_ofJuror_79 (by decide) ?_
        exact v_reti C hA dX5_ofJuror_83 rfl (⟨by first | (simp only [ojF, bI, zjN, c3, e10, c11, zb13, e4, e5, e6, not_false_eq_true, not_true_eq_false, and_self, and_true, true_and, and_false, false_and, ↓reduceIte]; done) | (simp only [ojF, bI, zjN, c3, e10, c11, zb13, e4, e5, e6, not_false_eq_true, not_true_eq_false, and_self, and_true, true_and, and_false, false_and, ↓reduceIte]; rfl) | (simp [ojF, bI, zjN, c3, e10, c11, zb13, e4, e5, e6]; done) | rfl, by first | (simp only [ojF, bI, zjN, c3, e10, c11, zb13, e4, e5, e6, not_false_eq_true, not_true_eq_false, and_self, and_true, true_and, and_false, false_and, ↓reduceIte]; done) | (simp only [ojF, bI, zjN, c3, e10, c11, zb13, e4, e5, e6, not_false_eq_true, not_true_eq_false, and_self, and_true, true_and, and_false, false_and, ↓reduceIte]; rfl) | (simp [ojF, bI, zjN, c3, e10, c11, zb13, e4, e5, e6]; done) | rfl⟩)
    refine v_tableOut C 84 dX5_ofJuror_11 (tab_out4 e4 e5 e6 e10) (by decide) ?_
    refine v_bipush C (-2) dX5_ofJuror_84 (by decide) ?_
    exact v_reti C hA dX5_ofJuror_86 rfl (⟨by first | (simp only [ojF, bI, zjN, c3, e4, e5, e6, e10, not_false_eq_true, not_true_eq_false, and_self, and_true, true_and, and_false, false_and, ↓reduceIte]; done) | (simp only [ojF, bI, zjN, c3, e4, e5, e6, e10, not_false_eq_true, not_true_eq_false, and_self, and_true, true_and, and_false, false_and, ↓reduceIte]; rfl) | (simp [ojF, bI, zjN, c3, e4, e5, e6, e10]; done) | rfl, by first | (simp only [ojF, bI, zjN, c3, e4, e5, e6, e10, not_false_eq_true, not_true_eq_false, and_self, and_true, true_and, and_false, false_and, ↓reduceIte]; done) | (simp only [ojF, bI, zjN, c3, e4, e5, e6, e10, not_false_eq_true, not_true_eq_false, and_self, and_true, true_and, and_false, false_and, ↓reduceIte]; rfl) | (simp [ojF, bI, zjN, c3, e4, e5, e6, e10]; done) | rfl⟩)
  · refine v_eqi 0 (bI_f c3) ?_
    refine v_if_ne C 10 dX5_ofJuror_5 (by decide) (fun h => absurd h (by decide)) (fun _ => ?_)
    refine v_iconst C (-1) dX5_ofJuror_8 (by decide) ?_
    exact v_reti C hA dX5_ofJuror_9 rfl (⟨by first | (simp only [ojF, bI, c3, not_false_eq_true, not_true_eq_false, and_self, and_true, true_and, and_false, false_and, ↓reduceIte]; done) | (simp only [ojF, bI, c3, not_false_eq_true, not_true_eq_false, and_self, and_true, true_and, and_false, false_and, ↓reduceIte]; rfl) | (simp [ojF, bI, c3]; done) | rfl, by first | (simp only [ojF, bI, c3, not_false_eq_true, not_true_eq_false, and_self, and_true, true_and, and_false, false_and, ↓reduceIte]; done) | (simp only [ojF, bI, c3, not_false_eq_true, not_true_eq_false, and_self, and_true, true_and, and_false, false_and, ↓reduceIte]; rfl) | (simp [ojF, bI, c3]; done) | rfl⟩)
set_option maxHeartbeats 4000000 in
set_option maxRecDepth 100000 in
theorem m_X5_ofCase {l : Launch} {D : va_G} {cI cB cS : ClassId} (b : Nat → Nat) (nj nc wl s0 st nr : Nat) (n_fa : Int32) (n_tr : Int32) (n_mi : Int32) (n_at : Int32) (n_rm : Int32) (n_rj : Int32) (n_rc : Int32) (n_nw : Int32) (n_ov : Int32) (n_rl : Int32) (n_de : Nat → Int32) (n_fr : Nat → Int32) (n_we : Nat → Int32) (c : Int32) (x : Int32) (hnj : nj ≤ 5) (hnc : nc ≤ 5) (hwl : wl < 64) (hs0 : s0 < 2 ^ nj) (hst2 : st < 2 ^ nj) (hp5 : 2 ^ nj ≤ 32) (hnr : nr ≤ 8) : Mi l yX5_ofCase cX5_ofCase 3 (some .int) 1 21 D cI cB cS [.ref (b 0), .int c, .int x] [oN b n_fa n_tr n_mi (nI nj) (nI nc) (nI wl) n_at n_rm n_rj n_rc n_nw n_ov n_rl (nI nr), ia (b 13) cI 5 n_de, ia (b 14) cI 5 n_fr, ia (b 15) cI 5 n_we] (fun r w => r = ocF nc n_de n_fr n_we c x ∧ w = [oN b n_fa n_tr n_mi (nI nj) (nI nc) (nI wl) n_at n_rm n_rj n_rc n_nw n_ov n_rl (nI nr), ia (b 13) cI 5 n_de, ia (b 14) cI 5 n_fr, ia (b 15) cI 5 n_we]) := by
  refine Mi.of (by decide) (Nat.le_of_ble_eq_true rfl) ?_
  intro zp ze zs zm zb zt zc zz zA hA C hnm
  refine v_lv0 [(0, .ref (b 0)), (1, .int c), (2, .int x)] rfl ?_
  refine v_aload_n C dX5_ofCase_0 0 rfl ?_
  refine v_iload_n C dX5_ofCase_1 1 rfl ?_
  refine v_callRi C l_X5_143 (m_X5_isCase b n_fa n_tr n_mi (nI nj) (nI nc) (nI wl) n_at n_rm n_rj n_rc n_nw n_ov n_rl (nI nr) c) (by decide) dX5_ofCase_2 [0] rfl 0 rfl rfl rfl (rest := []) rfl (Nat.le_of_ble_eq_true rfl) (by decide) (fun r1 h2 => ?_)
  subst h2
  by_cases c3 : ¬ c < 0 ∧ ¬ (nI nc) ≤ c
  · refine v_eqi 1 (bI_t c3) ?_
    obtain ⟨cN, hcN, rfl⟩ := ix_of' (by omega) c3
    have zcN : (nI cN).toNatClampNeg = cN := nI_clamp (by omega)
    refine v_if_ne C 10 dX5_ofCase_5 (by decide) (fun _ => ?_) (fun h => absurd h (by decide))
    refine v_iload_n C dX5_ofCase_10 2 rfl ?_
    refine v_if_ne C 23 dX5_ofCase_11 (by decide) (fun c4 => ?_) (fun c4 => ?_)
    · refine v_iload_n C dX5_ofCase_23 2 rfl ?_
      refine v_iconst C 1 dX5_ofCase_24 (by decide) ?_
      refine v_icmp_ne C 37 dX5_ofCase_25 (by decide) (fun c5 => ?_) (fun c5 => ?_)
      · refine v_iload_n C dX5_ofCase_37 2 rfl ?_
        refine v_iconst C 2 dX5_ofCase_38 (by decide) ?_
        refine v_icmp_ne C 51 dX5_ofCase_39 (by decide) (fun c6 => ?_) (fun c6 => ?_)
        · refine v_bipush C (-2) dX5_ofCase_51 (by decide) ?_
          exact v_reti C hA dX5_ofCase_53 rfl (⟨by first | (simp only [ocF, bI, zcN, c3, c4, c5, c6, not_false_eq_true, not_true_eq_false, and_self, and_true, true_and, and_false, false_and, ↓reduceIte]; done) | (simp only [ocF, bI, zcN, c3, c4, c5, c6, not_false_eq_true, not_true_eq_false, and_self, and_true, true_and, and_false, false_and, ↓reduceIte]; rfl) | (simp [ocF, bI, zcN, c3, c4, c5, c6]; done) | rfl, by first | (simp only [ocF, bI, zcN, c3, c4, c5, c6, not_false_eq_true, not_true_eq_false, and_self, and_true, true_and, and_false, false_and, ↓reduceIte]; done) | (simp only [ocF, bI, zcN, c3, c4, c5, c6, not_false_eq_true, not_true_eq_false, and_self, and_true, true_and, and_false, false_and, ↓reduceIte]; rfl) | (simp [ocF, bI, zcN, c3, c4, c5, c6]; done) | rfl⟩)
        · refine v_aload_n C dX5_ofCase_42 0 rfl ?_
          refine v_get C f_X5_38 dX5_ofCase_43 0 rfl rfl ?_
          refine v_iload_n C dX5_ofCase_46 1 rfl ?_
          refine v_ialdN C dX5_ofCase_47 3 rfl cN rfl (by omega) (by decide) ?_
          refine v_goto C 53 dX5_ofCase_48 (by decide) ?_
          exact v_reti C hA dX5_ofCase_53 rfl (⟨by first | (simp only [ocF, bI, zcN, c3, c4, c5, c6, not_false_eq_true, not_true_eq_false, and_self, and_true, true_and, and_false, false_and, ↓reduceIte]; done) | (simp only [ocF, bI, zcN, c3, c4, c5, c6, not_false_eq_true, not_true_eq_false, and_self, and_true, true_and, and_false, false_and, ↓reduceIte]; rfl) | (simp [ocF, bI, zcN, c3, c4, c5, c6]; done) | rfl, by first | (simp only [ocF, bI, zcN, c3, c4, c5, c6, not_false_eq_true, not_true_eq_false, and_self, and_true, true_and, and_false, false_and, ↓reduceIte]; done) | (simp only [ocF, bI, zcN, c3, c4, c5, c6, not_false_eq_true, not_true_eq_false, and_self, and_true, true_and, and_false, false_and, ↓reduceIte]; rfl) | (simp [ocF, bI, zcN, c3, c4, c5, c6]; done) | rfl⟩)
      · refine v_aload_n C dX5_ofCase_28 0 rfl ?_
        refine v_get C f_X5_35 dX5_ofCase_29 0 rfl rfl ?_
        refine v_iload_n C dX5_ofCase_32 1 rfl ?_
        refine v_ialdN C dX5_ofCase_33 2 rfl cN rfl (by omega) (by decide) ?_
        refine v_goto C 53 dX5_ofCase_34 (by decide) ?_
        exact v_reti C hA dX5_ofCase_53 rfl (⟨by first | (simp only [ocF, bI, zcN, c3, c4, c5, not_false_eq_true, not_true_eq_false, and_self, and_true, true_and, and_false, false_and, ↓reduceIte]; done) | (simp only [ocF, bI, zcN, c3, c4, c5, not_false_eq_true, not_true_eq_false, and_self, and_true, true_and, and_false, false_and, ↓reduceIte]; rfl) | (simp [ocF, bI, zcN, c3, c4, c5]; done) | rfl, by first | (simp only [ocF, bI, zcN, c3, c4, c5, not_false_eq_true, not_true_eq_false, and_self, and_true, true_and, and_false, false_and, ↓reduceIte]; done) | (simp only [ocF, bI, zcN, c3, c4, c5, not_false_eq_true, not_true_eq_false, and_self, and_true, true_and, and_false, false_and, ↓reduceIte]; rfl) | (simp [ocF, bI, zcN, c3, c4, c5]; done) | rfl⟩)
    · refine v_aload_n C dX5_ofCase_14 0 rfl ?_
      refine v_get C f_X5_32 dX5_ofCase_15 0 rfl rfl ?_
      refine v_iload_n C dX5_ofCase_18 1 rfl ?_
      refine v_ialdN C dX5_ofCase_19 1 rfl cN rfl (by omega) (by decide) ?_
      refine v_goto C 53 dX5_ofCase_20 (by decide) ?_
      exact v_reti C hA dX5_ofCase_53 rfl (⟨by first | (simp only [ocF, bI, zcN, c3, c4, not_false_eq_true, not_true_eq_false, and_self, and_true, true_and, and_false, false_and, ↓reduceIte]; done) | (simp only [ocF, bI, zcN, c3, c4, not_false_eq_true, not_true_eq_false, and_self, and_true, true_and, and_false, false_and, ↓reduceIte]; rfl) | (simp [ocF, bI, zcN, c3, c4]; done) | rfl, by first | (simp only [ocF, bI, zcN, c3, c4, not_false_eq_true, not_true_eq_false, and_self, and_true, true_and, and_false, false_and, ↓reduceIte]; done) | (simp only [ocF, bI, zcN, c3, c4, not_false_eq_true, not_true_eq_false, and_self, and_true, true_and, and_false, false_and, ↓reduceIte]; rfl) | (simp [ocF, bI, zcN, c3, c4]; done) | rfl⟩)
  · refine v_eqi 0 (bI_f c3) ?_
    refine v_if_ne C 10 dX5_ofCase_5 (by decide) (fun h => absurd h (by decide)) (fun _ => ?_)
    refine v_iconst C (-1) dX5_ofCase_8 (by decide) ?_
    exact v_reti C hA dX5_ofCase_9 rfl (⟨by first | (simp only [ocF, bI, c3, not_false_eq_true, not_true_eq_false, and_self, and_true, true_and, and_false, false_and, ↓reduceIte]; done) | (simp only [ocF, bI, c3, not_false_eq_true, not_true_eq_false, and_self, and_true, true_and, and_false, false_and, ↓reduceIte]; rfl) | (simp [ocF, bI, c3]; done) | rfl, by first | (simp only [ocF, bI, c3, not_false_eq_true, not_true_eq_false, and_self, and_true, true_and, and_false, false_and, ↓reduceIte]; done) | (simp only [ocF, bI, c3, not_false_eq_true, not_true_eq_false, and_self, and_true, true_and, and_false, false_and, ↓reduceIte]; rfl) | (simp [ocF, bI, c3]; done) | rfl⟩)
set_option maxHeartbeats 4000000 in
set_option maxRecDepth 100000 in
theorem m_X5_chalk {l : Launch} {D : va_G} {cI cB cS : ClassId} (b : Nat → Nat) (nj nc wl s0 st nr : Nat) (n_fa : Int32) (n_tr : Int32) (n_mi : Int32) (n_at : Int32) (n_rm : Int32) (n_rj : Int32) (n_rc : Int32) (n_nw : Int32) (n_ov : Int32) (n_rl : Int32) (x : Int32) (hnj : nj ≤ 5) (hnc : nc ≤ 5) (hwl : wl < 64) (hs0 : s0 < 2 ^ nj) (hst2 : st < 2 ^ nj) (hp5 : 2 ^ nj ≤ 32) (hnr : nr ≤ 8) : Mi l yX5_chalk cX5_chalk 3 (some .int) 1 22 D cI cB cS [.ref (b 0), .int x] [oN b n_fa n_tr n_mi (nI nj) (nI nc) (nI wl) n_at n_rm n_rj n_rc n_nw n_ov n_rl (nI nr)] (fun r w => r = ckF nc wl x ∧ w = [oN b n_fa n_tr n_mi (nI nj) (nI nc) (nI (ckW nc wl x)) n_at n_rm n_rj n_rc n_nw n_ov n_rl (nI nr)]) := by
  refine Mi.of (by decide) (Nat.le_of_ble_eq_true rfl) ?_
  intro zp ze zs zm zb zt zc zz zA hA C hnm
  refine v_lv0 [(0, .ref (b 0)), (1, .int x)] rfl ?_
  refine v_iload_n C dX5_chalk_0 1 rfl ?_
  refine v_iconst C 0 dX5_chalk_1 (by decide) ?_
  refine v_bipush C 63 dX5_chalk_2 (by decide) ?_
  refine v_callSi C l_X5_74 (m_X5_within x 0 63) (by decide) dX5_chalk_4 [] rfl rfl (rest := []) rfl (Nat.le_of_ble_eq_true rfl) (by decide) (fun r1 h2 => ?_)
  subst h2
  by_cases c3 : wib x (0 : Int32) (63 : Int32) = true
  · refine v_eqi 1 (bI_t c3) ?_
    rw [wib_64] at c3
    refine v_if_ne C 13 dX5_chalk_7 (by decide) (fun _ => ?_) (fun h => absurd h (by decide))
    refine v_aload_n C dX5_chalk_13 0 rfl ?_
    refine v_get C f_X5_81 dX5_chalk_14 0 rfl rfl ?_
    refine v_if_ne C 23 dX5_chalk_17 (by decide) (fun c4 => ?_) (fun c4 => ?_)
    · have nc4 : nc ≠ 0 := fun q => c4 (by rw [q] <;> rfl)
      have zc5 : ¬ nI nc ≤ 0 := by rw [nc0 hnc]; exact nc4
      have hnc1 : 1 ≤ nc := by omega
      refine v_aload_n C dX5_chalk_23 0 rfl ?_
      refine v_get C f_X5_117 dX5_chalk_24 0 rfl rfl ?_
      refine v_istore_n C [(2, .int (nI wl)), (0, .ref (b 0)), (1, .int x)] dX5_chalk_27 (by decide) rfl ?_
      obtain ⟨xN, hxN, rfl⟩ := ix_lt (n := 64) (by omega) c3
      have zxN : (nI xN).toNatClampNeg = xN := nI_clamp (by omega)
      refine v_aload_n C dX5_chalk_28 1 rfl ?_
      refine v_iload_n C dX5_chalk_29 2 rfl ?_
      refine v_put C p_X5_117 [oN b n_fa n_tr n_mi (nI nj) (nI nc) (nI xN) n_at n_rm n_rj n_rc n_nw n_ov n_rl (nI nr)] dX5_chalk_30 0 rfl rfl rfl (Nat.le_of_ble_eq_true rfl) rfl ?_
      refine v_iload_n C dX5_chalk_33 0 rfl ?_
      exact v_reti C hA dX5_chalk_34 rfl (⟨by first | (simp only [ckF, ckW, bI, zxN, c3, c4, nc4, nc4, zc5, not_false_eq_true, not_true_eq_false, and_self, and_true, true_and, and_false, false_and, ↓reduceIte]; done) | (simp only [ckF, ckW, bI, zxN, c3, c4, nc4, nc4, zc5, not_false_eq_true, not_true_eq_false, and_self, and_true, true_and, and_false, false_and, ↓reduceIte]; rfl) | (simp [ckF, ckW, bI, zxN, c3, c4, nc4, nc4, zc5]; done) | rfl, by first | (simp only [ckF, ckW, bI, zxN, c3, c4, nc4, nc4, zc5, not_false_eq_true, not_true_eq_false, and_self, and_true, true_and, and_false, false_and, ↓reduceIte]; done) | (simp only [ckF, ckW, bI, zxN, c3, c4, nc4, nc4, zc5, not_false_eq_true, not_true_eq_false, and_self, and_true, true_and, and_false, false_and, ↓reduceIte]; rfl) | (simp [ckF, ckW, bI, zxN, c3, c4, nc4, nc4, zc5]; done) | rfl⟩)
    · have nc4 : nc = 0 := nI_eqP c4 (by omega) (by omega)
      have zc6 : nI nc ≤ 0 := by rw [nc0 hnc]; exact nc4
      refine v_bipush C (-3) dX5_chalk_20 (by decide) ?_
      exact v_reti C hA dX5_chalk_22 rfl (⟨by first | (simp only [ckF, ckW, bI, c3, c4, nc4, nc4, zc6, not_false_eq_true, not_true_eq_false, and_self, and_true, true_and, and_false, false_and, ↓reduceIte]; done) | (simp only [ckF, ckW, bI, c3, c4, nc4, nc4, zc6, not_false_eq_true, not_true_eq_false, and_self, and_true, true_and, and_false, false_and, ↓reduceIte]; rfl) | (simp [ckF, ckW, bI, c3, c4, nc4, nc4, zc6]; done) | rfl, by first | (simp only [ckF, ckW, bI, c3, c4, nc4, nc4, zc6, not_false_eq_true, not_true_eq_false, and_self, and_true, true_and, and_false, false_and, ↓reduceIte]; done) | (simp only [ckF, ckW, bI, c3, c4, nc4, nc4, zc6, not_false_eq_true, not_true_eq_false, and_self, and_true, true_and, and_false, false_and, ↓reduceIte]; rfl) | (simp [ckF, ckW, bI, c3, c4, nc4, nc4, zc6]; done) | rfl⟩)
  · refine v_eqi 0 (bI_f c3) ?_
    rw [wib_64] at c3
    have zw7 : ¬ (¬ x < 0 ∧ x < 64 ∧ ¬ nI nc ≤ 0) := fun q => c3 ⟨q.1, q.2.1⟩
    refine v_if_ne C 13 dX5_chalk_7 (by decide) (fun h => absurd h (by decide)) (fun _ => ?_)
    refine v_bipush C (-2) dX5_chalk_10 (by decide) ?_
    exact v_reti C hA dX5_chalk_12 rfl (⟨by first | (simp only [ckF, ckW, bI, c3, zw7, not_false_eq_true, not_true_eq_false, and_self, and_true, true_and, and_false, false_and, ↓reduceIte]; done) | (simp only [ckF, ckW, bI, c3, zw7, not_false_eq_true, not_true_eq_false, and_self, and_true, true_and, and_false, false_and, ↓reduceIte]; rfl) | (simp [ckF, ckW, bI, c3, zw7]; done) | rfl, by first | (simp only [ckF, ckW, bI, c3, zw7, not_false_eq_true, not_true_eq_false, and_self, and_true, true_and, and_false, false_and, ↓reduceIte]; done) | (simp only [ckF, ckW, bI, c3, zw7, not_false_eq_true, not_true_eq_false, and_self, and_true, true_and, and_false, false_and, ↓reduceIte]; rfl) | (simp [ckF, ckW, bI, c3, zw7]; done) | rfl⟩)
set_option maxHeartbeats 4000000 in
set_option maxRecDepth 100000 in
theorem m_X5_treat1 {l : Launch} {D : va_G} {cI cB cS : ClassId} (b : Nat → Nat) (nj nc wl s0 st nr : Nat) (n_fa : Int32) (n_tr : Int32) (n_mi : Int32) (n_at : Int32) (n_rm : Int32) (n_rj : Int32) (n_rc : Int32) (n_nw : Int32) (n_ov : Int32) (n_rl : Int32) (n_hS : Nat → Int32) (j : Int32) (hnj : nj ≤ 5) (hnc : nc ≤ 5) (hwl : wl < 64) (hs0 : s0 < 2 ^ nj) (hst2 : st < 2 ^ nj) (hp5 : 2 ^ nj ≤ 32) (hnr : nr ≤ 8) (hhS : ∀ j, j < nj → n_hS j = bA s0 j) : Mi l yX5_treat cX5_treat 4 (some .int) 1 21 D cI cB cS [.ref (b 0), .int j, .int 1] [oN b n_fa n_tr n_mi (nI nj) (nI nc) (nI wl) n_at n_rm n_rj n_rc n_nw n_ov n_rl (nI nr), ia (b 11) cB 5 n_hS] (fun r w => r = trF nj s0 j 1 ∧ w = [oN b n_fa n_tr n_mi (nI nj) (nI nc) (nI wl) n_at n_rm n_rj n_rc n_nw n_ov n_rl (nI nr), ia (b 11) cB 5 (if ¬ j < 0 ∧ ¬ nI nj ≤ j then upd n_hS (zN j) 1 else n_hS)]) := by
  refine Mi.of (by decide) (Nat.le_of_ble_eq_true rfl) ?_
  intro zp ze zs zm zb zt zc zz zA hA C hnm
  refine v_lv0 [(0, .ref (b 0)), (1, .int j), (2, .int 1)] rfl ?_
  refine v_aload_n C dX5_treat_0 0 rfl ?_
  refine v_iload_n C dX5_treat_1 1 rfl ?_
  refine v_callRi C l_X5_140 (m_X5_isJuror b n_fa n_tr n_mi (nI nj) (nI nc) (nI wl) n_at n_rm n_rj n_rc n_nw n_ov n_rl (nI nr) j) (by decide) dX5_treat_2 [0] rfl 0 rfl rfl rfl (rest := []) rfl (Nat.le_of_ble_eq_true rfl) (by decide) (fun r1 h2 => ?_)
  subst h2
  by_cases c3 : ¬ j < 0 ∧ ¬ (nI nj) ≤ j
  · refine v_eqi 1 (bI_t c3) ?_
    obtain ⟨jN, hjN, rfl⟩ := ix_of' (by omega) c3
    have zjN : (nI jN).toNatClampNeg = jN := nI_clamp (by omega)
    refine v_if_ne C 10 dX5_treat_5 (by decide) (fun _ => ?_) (fun h => absurd h (by decide))
    refine v_aload_n C dX5_treat_10 0 rfl ?_
    refine v_get C f_X5_25 dX5_treat_11 0 rfl rfl ?_
    refine v_iload_n C dX5_treat_14 1 rfl ?_
    refine v_zaldN C dX5_treat_15 1 rfl jN rfl (by omega) (by decide) ?_
    refine v_eqi (bA s0 jN) (hhS jN hjN) ?_
    refine v_istore_n C [(3, .int (bA s0 jN)), (0, .ref (b 0)), (1, .int (nI jN)), (2, .int 1)] dX5_treat_16 (by decide) rfl ?_
    refine v_aload_n C dX5_treat_17 1 rfl ?_
    refine v_get C f_X5_25 dX5_treat_18 0 rfl rfl ?_
    refine v_iload_n C dX5_treat_21 2 rfl ?_
    refine v_iload_n C dX5_treat_22 3 rfl ?_
    refine v_zastN C [oN b n_fa n_tr n_mi (nI nj) (nI nc) (nI wl) n_at n_rm n_rj n_rc n_nw n_ov n_rl (nI nr), ia (b 11) cB 5 (upd n_hS jN 1)] dX5_treat_23 1 rfl jN rfl (by omega) (by decide) rfl rfl ?_
    refine v_iload_n C dX5_treat_24 0 rfl ?_
    refine v_iload_n C dX5_treat_25 3 rfl ?_
    refine v_icmp_ne C 33 dX5_treat_26 (by decide) (fun c4 => ?_) (fun c4 => ?_)
    · have zb5 : ¬ wbN s0 jN 1 = s0 := fun q => c4 ((wb_1 (by omega) (by omega)).mp q)
      refine v_iconst C 1 dX5_treat_33 (by decide) ?_
      exact v_reti C hA dX5_treat_34 rfl (⟨by first | (simp only [trF, bI, zjN, c3, c4, zb5, not_false_eq_true, not_true_eq_false, and_self, and_true, true_and, and_false, false_and, ↓reduceIte]; done) | (simp only [trF, bI, zjN, c3, c4, zb5, not_false_eq_true, not_true_eq_false, and_self, and_true, true_and, and_false, false_and, ↓reduceIte]; rfl) | (simp [trF, bI, zjN, c3, c4, zb5]; done) | rfl, by first | (simp only [trF, bI, zjN, c3, c4, zb5, not_false_eq_true, not_true_eq_false, and_self, and_true, true_and, and_false, false_and, ↓reduceIte]; done) | (simp only [trF, bI, zjN, c3, c4, zb5, not_false_eq_true, not_true_eq_false, and_self, and_true, true_and, and_false, false_and, ↓reduceIte]; rfl) | (simp [trF, bI, zjN, c3, c4, zb5]; done) | rfl⟩)
    · have zb6 : wbN s0 jN 1 = s0 := (wb_1 (by omega) (by omega)).mpr c4
      refine v_iconst C 0 dX5_treat_29 (by decide) ?_
      refine v_goto C 34 dX5_treat_30 (by decide) ?_
      exact v_reti C hA dX5_treat_34 rfl (⟨by first | (simp only [trF, bI, zjN, c3, c4, zb6, not_false_eq_true, not_true_eq_false, and_self, and_true, true_and, and_false, false_and, ↓reduceIte]; done) | (simp only [trF, bI, zjN, c3, c4, zb6, not_false_eq_true, not_true_eq_false, and_self, and_true, true_and, and_false, false_and, ↓reduceIte]; rfl) | (simp [trF, bI, zjN, c3, c4, zb6]; done) | rfl, by first | (simp only [trF, bI, zjN, c3, c4, zb6, not_false_eq_true, not_true_eq_false, and_self, and_true, true_and, and_false, false_and, ↓reduceIte]; done) | (simp only [trF, bI, zjN, c3, c4, zb6, not_false_eq_true, not_true_eq_false, and_self, and_true, true_and, and_false, false_and, ↓reduceIte]; rfl) | (simp [trF, bI, zjN, c3, c4, zb6]; done) | rfl⟩)
  · refine v_eqi 0 (bI_f c3) ?_
    refine v_if_ne C 10 dX5_treat_5 (by decide) (fun h => absurd h (by decide)) (fun _ => ?_)
    refine v_iconst C (-1) dX5_treat_8 (by decide) ?_
    exact v_reti C hA dX5_treat_9 rfl (⟨by first | (simp only [trF, bI, c3, not_false_eq_true, not_true_eq_false, and_self, and_true, true_and, and_false, false_and, ↓reduceIte]; done) | (simp only [trF, bI, c3, not_false_eq_true, not_true_eq_false, and_self, and_true, true_and, and_false, false_and, ↓reduceIte]; rfl) | (simp [trF, bI, c3]; done) | rfl, by first | (simp only [trF, bI, c3, not_false_eq_true, not_true_eq_false, and_self, and_true, true_and, and_false, false_and, ↓reduceIte]; done) | (simp only [trF, bI, c3, not_false_eq_true, not_true_eq_false, and_self, and_true, true_and, and_false, false_and, ↓reduceIte]; rfl) | (simp [trF, bI, c3]; done) | rfl⟩)
set_option maxHeartbeats 4000000 in
set_option maxRecDepth 100000 in
theorem m_X5_treat0 {l : Launch} {D : va_G} {cI cB cS : ClassId} (b : Nat → Nat) (nj nc wl s0 st nr : Nat) (n_fa : Int32) (n_tr : Int32) (n_mi : Int32) (n_at : Int32) (n_rm : Int32) (n_rj : Int32) (n_rc : Int32) (n_nw : Int32) (n_ov : Int32) (n_rl : Int32) (n_hS : Nat → Int32) (j : Int32) (hnj : nj ≤ 5) (hnc : nc ≤ 5) (hwl : wl < 64) (hs0 : s0 < 2 ^ nj) (hst2 : st < 2 ^ nj) (hp5 : 2 ^ nj ≤ 32) (hnr : nr ≤ 8) (hhS : ∀ j, j < nj → n_hS j = bA s0 j) : Mi l yX5_treat cX5_treat 4 (some .int) 1 21 D cI cB cS [.ref (b 0), .int j, .int 0] [oN b n_fa n_tr n_mi (nI nj) (nI nc) (nI wl) n_at n_rm n_rj n_rc n_nw n_ov n_rl (nI nr), ia (b 11) cB 5 n_hS] (fun r w => r = trF nj s0 j 0 ∧ w = [oN b n_fa n_tr n_mi (nI nj) (nI nc) (nI wl) n_at n_rm n_rj n_rc n_nw n_ov n_rl (nI nr), ia (b 11) cB 5 (if ¬ j < 0 ∧ ¬ nI nj ≤ j then upd n_hS (zN j) 0 else n_hS)]) := by
  refine Mi.of (by decide) (Nat.le_of_ble_eq_true rfl) ?_
  intro zp ze zs zm zb zt zc zz zA hA C hnm
  refine v_lv0 [(0, .ref (b 0)), (1, .int j), (2, .int 0)] rfl ?_
  refine v_aload_n C dX5_treat_0 0 rfl ?_
  refine v_iload_n C dX5_treat_1 1 rfl ?_
  refine v_callRi C l_X5_140 (m_X5_isJuror b n_fa n_tr n_mi (nI nj) (nI nc) (nI wl) n_at n_rm n_rj n_rc n_nw n_ov n_rl (nI nr) j) (by decide) dX5_treat_2 [0] rfl 0 rfl rfl rfl (rest := []) rfl (Nat.le_of_ble_eq_true rfl) (by decide) (fun r1 h2 => ?_)
  subst h2
  by_cases c3 : ¬ j < 0 ∧ ¬ (nI nj) ≤ j
  · refine v_eqi 1 (bI_t c3) ?_
    obtain ⟨jN, hjN, rfl⟩ := ix_of' (by omega) c3
    have zjN : (nI jN).toNatClampNeg = jN := nI_clamp (by omega)
    refine v_if_ne C 10 dX5_treat_5 (by decide) (fun _ => ?_) (fun h => absurd h (by decide))
    refine v_aload_n C dX5_treat_10 0 rfl ?_
    refine v_get C f_X5_25 dX5_treat_11 0 rfl rfl ?_
    refine v_iload_n C dX5_treat_14 1 rfl ?_
    refine v_zaldN C dX5_treat_15 1 rfl jN rfl (by omega) (by decide) ?_
    refine v_eqi (bA s0 jN) (hhS jN hjN) ?_
    refine v_istore_n C [(3, .int (bA s0 jN)), (0, .ref (b 0)), (1, .int (nI jN)), (2, .int 0)] dX5_treat_16 (by decide) rfl ?_
    refine v_aload_n C dX5_treat_17 1 rfl ?_
    refine v_get C f_X5_25 dX5_treat_18 0 rfl rfl ?_
    refine v_iload_n C dX5_treat_21 2 rfl ?_
    refine v_iload_n C dX5_treat_22 3 rfl ?_
    refine v_zastN C [oN b n_fa n_tr n_mi (nI nj) (nI nc) (nI wl) n_at n_rm n_rj n_rc n_nw n_ov n_rl (nI nr), ia (b 11) cB 5 (upd n_hS jN 0)] dX5_treat_23 1 rfl jN rfl (by omega) (by decide) rfl rfl ?_
    refine v_iload_n C dX5_treat_24 0 rfl ?_
    refine v_iload_n C dX5_treat_25 3 rfl ?_
    refine v_icmp_ne C 33 dX5_treat_26 (by decide) (fun c4 => ?_) (fun c4 => ?_)
    · have zb5 : ¬ wbN s0 jN 0 = s0 := fun q => c4 ((wb_0 (by omega) (by omega)).mp q)
      refine v_iconst C 1 dX5_treat_33 (by decide) ?_
      exact v_reti C hA dX5_treat_34 rfl (⟨by first | (simp only [trF, bI, zjN, c3, c4, zb5, not_false_eq_true, not_true_eq_false, and_self, and_true, true_and, and_false, false_and, ↓reduceIte]; done) | (simp only [trF, bI, zjN, c3, c4, zb5, not_false_eq_true, not_true_eq_false, and_self, and_true, true_and, and_false, false_and, ↓reduceIte]; rfl) | (simp [trF, bI, zjN, c3, c4, zb5]; done) | rfl, by first | (simp only [trF, bI, zjN, c3, c4, zb5, not_false_eq_true, not_true_eq_false, and_self, and_true, true_and, and_false, false_and, ↓reduceIte]; done) | (simp only [trF, bI, zjN, c3, c4, zb5, not_false_eq_true, not_true_eq_false, and_self, and_true, true_and, and_false, false_and, ↓reduceIte]; rfl) | (simp [trF, bI, zjN, c3, c4, zb5]; done) | rfl⟩)
    · have zb6 : wbN s0 jN 0 = s0 := (wb_0 (by omega) (by omega)).mpr c4
      refine v_iconst C 0 dX5_treat_29 (by decide) ?_
      refine v_goto C 34 dX5_treat_30 (by decide) ?_
      exact v_reti C hA dX5_treat_34 rfl (⟨by first | (simp only [trF, bI, zjN, c3, c4, zb6, not_false_eq_true, not_true_eq_false, and_self, and_true, true_and, and_false, false_and, ↓reduceIte]; done) | (simp only [trF, bI, zjN, c3, c4, zb6, not_false_eq_true, not_true_eq_false, and_self, and_true, true_and, and_false, false_and, ↓reduceIte]; rfl) | (simp [trF, bI, zjN, c3, c4, zb6]; done) | rfl, by first | (simp only [trF, bI, zjN, c3, c4, zb6, not_false_eq_true, not_true_eq_false, and_self, and_true, true_and, and_false, false_and, ↓reduceIte]; done) | (simp only [trF, bI, zjN, c3, c4, zb6, not_false_eq_true, not_true_eq_false, and_self, and_true, true_and, and_false, false_and, ↓reduceIte]; rfl) | (simp [trF, bI, zjN, c3, c4, zb6]; done) | rfl⟩)
  · refine v_eqi 0 (bI_f c3) ?_
    refine v_if_ne C 10 dX5_treat_5 (by decide) (fun h => absurd h (by decide)) (fun _ => ?_)
    refine v_iconst C (-1) dX5_treat_8 (by decide) ?_
    exact v_reti C hA dX5_treat_9 rfl (⟨by first | (simp only [trF, bI, c3, not_false_eq_true, not_true_eq_false, and_self, and_true, true_and, and_false, false_and, ↓reduceIte]; done) | (simp only [trF, bI, c3, not_false_eq_true, not_true_eq_false, and_self, and_true, true_and, and_false, false_and, ↓reduceIte]; rfl) | (simp [trF, bI, c3]; done) | rfl, by first | (simp only [trF, bI, c3, not_false_eq_true, not_true_eq_false, and_self, and_true, true_and, and_false, false_and, ↓reduceIte]; done) | (simp only [trF, bI, c3, not_false_eq_true, not_true_eq_false, and_self, and_true, true_and, and_false, false_and, ↓reduceIte]; rfl) | (simp [trF, bI, c3]; done) | rfl⟩)
set_option maxHeartbeats 4000000 in
set_option maxRecDepth 100000 in
theorem m_X5_strike1 {l : Launch} {D : va_G} {cI cB cS : ClassId} (b : Nat → Nat) (nj nc wl s0 st nr : Nat) (n_fa : Int32) (n_tr : Int32) (n_mi : Int32) (n_at : Int32) (n_rm : Int32) (n_rj : Int32) (n_rc : Int32) (n_nw : Int32) (n_ov : Int32) (n_rl : Int32) (n_iS : Nat → Int32) (j : Int32) (hnj : nj ≤ 5) (hnc : nc ≤ 5) (hwl : wl < 64) (hs0 : s0 < 2 ^ nj) (hst2 : st < 2 ^ nj) (hp5 : 2 ^ nj ≤ 32) (hnr : nr ≤ 8) (hiS : ∀ j, j < nj → n_iS j = bA st j) : Mi l yX5_strike cX5_strike 4 (some .int) 1 21 D cI cB cS [.ref (b 0), .int j, .int 1] [oN b n_fa n_tr n_mi (nI nj) (nI nc) (nI wl) n_at n_rm n_rj n_rc n_nw n_ov n_rl (nI nr), ia (b 12) cB 5 n_iS] (fun r w => r = trF nj st j 1 ∧ w = [oN b n_fa n_tr n_mi (nI nj) (nI nc) (nI wl) n_at n_rm n_rj n_rc n_nw n_ov n_rl (nI nr), ia (b 12) cB 5 (if ¬ j < 0 ∧ ¬ nI nj ≤ j then upd n_iS (zN j) 1 else n_iS)]) := by
  refine Mi.of (by decide) (Nat.le_of_ble_eq_true rfl) ?_
  intro zp ze zs zm zb zt zc zz zA hA C hnm
  refine v_lv0 [(0, .ref (b 0)), (1, .int j), (2, .int 1)] rfl ?_
  refine v_aload_n C dX5_strike_0 0 rfl ?_
  refine v_iload_n C dX5_strike_1 1 rfl ?_
  refine v_callRi C l_X5_140 (m_X5_isJuror b n_fa n_tr n_mi (nI nj) (nI nc) (nI wl) n_at n_rm n_rj n_rc n_nw n_ov n_rl (nI nr) j) (by decide) dX5_strike_2 [0] rfl 0 rfl rfl rfl (rest := []) rfl (Nat.le_of_ble_eq_true rfl) (by decide) (fun r1 h2 => ?_)
  subst h2
  by_cases c3 : ¬ j < 0 ∧ ¬ (nI nj) ≤ j
  · refine v_eqi 1 (bI_t c3) ?_
    obtain ⟨jN, hjN, rfl⟩ := ix_of' (by omega) c3
    have zjN : (nI jN).toNatClampNeg = jN := nI_clamp (by omega)
    refine v_if_ne C 10 dX5_strike_5 (by decide) (fun _ => ?_) (fun h => absurd h (by decide))
    refine v_aload_n C dX5_strike_10 0 rfl ?_
    refine v_get C f_X5_29 dX5_strike_11 0 rfl rfl ?_
    refine v_iload_n C dX5_strike_14 1 rfl ?_
    refine v_zaldN C dX5_strike_15 1 rfl jN rfl (by omega) (by decide) ?_
    refine v_eqi (bA st jN) (hiS jN hjN) ?_
    refine v_istore_n C [(3, .int (bA st jN)), (0, .ref (b 0)), (1, .int (nI jN)), (2, .int 1)] dX5_strike_16 (by decide) rfl ?_
    refine v_aload_n C dX5_strike_17 1 rfl ?_
    refine v_get C f_X5_29 dX5_strike_18 0 rfl rfl ?_
    refine v_iload_n C dX5_strike_21 2 rfl ?_
    refine v_iload_n C dX5_strike_22 3 rfl ?_
    refine v_zastN C [oN b n_fa n_tr n_mi (nI nj) (nI nc) (nI wl) n_at n_rm n_rj n_rc n_nw n_ov n_rl (nI nr), ia (b 12) cB 5 (upd n_iS jN 1)] dX5_strike_23 1 rfl jN rfl (by omega) (by decide) rfl rfl ?_
    refine v_iload_n C dX5_strike_24 0 rfl ?_
    refine v_iload_n C dX5_strike_25 3 rfl ?_
    refine v_icmp_ne C 33 dX5_strike_26 (by decide) (fun c4 => ?_) (fun c4 => ?_)
    · have zb5 : ¬ wbN st jN 1 = st := fun q => c4 ((wb_1 (by omega) (by omega)).mp q)
      refine v_iconst C 1 dX5_strike_33 (by decide) ?_
      exact v_reti C hA dX5_strike_34 rfl (⟨by first | (simp only [trF, bI, zjN, c3, c4, zb5, not_false_eq_true, not_true_eq_false, and_self, and_true, true_and, and_false, false_and, ↓reduceIte]; done) | (simp only [trF, bI, zjN, c3, c4, zb5, not_false_eq_true, not_true_eq_false, and_self, and_true, true_and, and_false, false_and, ↓reduceIte]; rfl) | (simp [trF, bI, zjN, c3, c4, zb5]; done) | rfl, by first | (simp only [trF, bI, zjN, c3, c4, zb5, not_false_eq_true, not_true_eq_false, and_self, and_true, true_and, and_false, false_and, ↓reduceIte]; done) | (simp only [trF, bI, zjN, c3, c4, zb5, not_false_eq_true, not_true_eq_false, and_self, and_true, true_and, and_false, false_and, ↓reduceIte]; rfl) | (simp [trF, bI, zjN, c3, c4, zb5]; done) | rfl⟩)
    · have zb6 : wbN st jN 1 = st := (wb_1 (by omega) (by omega)).mpr c4
      refine v_iconst C 0 dX5_strike_29 (by decide) ?_
      refine v_goto C 34 dX5_strike_30 (by decide) ?_
      exact v_reti C hA dX5_strike_34 rfl (⟨by first | (simp only [trF, bI, zjN, c3, c4, zb6, not_false_eq_true, not_true_eq_false, and_self, and_true, true_and, and_false, false_and, ↓reduceIte]; done) | (simp only [trF, bI, zjN, c3, c4, zb6, not_false_eq_true, not_true_eq_false, and_self, and_true, true_and, and_false, false_and, ↓reduceIte]; rfl) | (simp [trF, bI, zjN, c3, c4, zb6]; done) | rfl, by first | (simp only [trF, bI, zjN, c3, c4, zb6, not_false_eq_true, not_true_eq_false, and_self, and_true, true_and, and_false, false_and, ↓reduceIte]; done) | (simp only [trF, bI, zjN, c3, c4, zb6, not_false_eq_true, not_true_eq_false, and_self, and_true, true_and, and_false, false_and, ↓reduceIte]; rfl) | (simp [trF, bI, zjN, c3, c4, zb6]; done) | rfl⟩)
  · refine v_eqi 0 (bI_f c3) ?_
    refine v_if_ne C 10 dX5_strike_5 (by decide) (fun h => absurd h (by decide)) (fun _ => ?_)
    refine v_iconst C (-1) dX5_strike_8 (by decide) ?_
    exact v_reti C hA dX5_strike_9 rfl (⟨by first | (simp only [trF, bI, c3, not_false_eq_true, not_true_eq_false, and_self, and_true, true_and, and_false, false_and, ↓reduceIte]; done) | (simp only [trF, bI, c3, not_false_eq_true, not_true_eq_false, and_self, and_true, true_and, and_false, false_and, ↓reduceIte]; rfl) | (simp [trF, bI, c3]; done) | rfl, by first | (simp only [trF, bI, c3, not_false_eq_true, not_true_eq_false, and_self, and_true, true_and, and_false, false_and, ↓reduceIte]; done) | (simp only [trF, bI, c3, not_false_eq_true, not_true_eq_false, and_self, and_true, true_and, and_false, false_and, ↓reduceIte]; rfl) | (simp [trF, bI, c3]; done) | rfl⟩)
set_option maxHeartbeats 4000000 in
set_option maxRecDepth 100000 in
theorem m_X5_strike0 {l : Launch} {D : va_G} {cI cB cS : ClassId} (b : Nat → Nat) (nj nc wl s0 st nr : Nat) (n_fa : Int32) (n_tr : Int32) (n_mi : Int32) (n_at : Int32) (n_rm : Int32) (n_rj : Int32) (n_rc : Int32) (n_nw : Int32) (n_ov : Int32) (n_rl : Int32) (n_iS : Nat → Int32) (j : Int32) (hnj : nj ≤ 5) (hnc : nc ≤ 5) (hwl : wl < 64) (hs0 : s0 < 2 ^ nj) (hst2 : st < 2 ^ nj) (hp5 : 2 ^ nj ≤ 32) (hnr : nr ≤ 8) (hiS : ∀ j, j < nj → n_iS j = bA st j) : Mi l yX5_strike cX5_strike 4 (some .int) 1 21 D cI cB cS [.ref (b 0), .int j, .int 0] [oN b n_fa n_tr n_mi (nI nj) (nI nc) (nI wl) n_at n_rm n_rj n_rc n_nw n_ov n_rl (nI nr), ia (b 12) cB 5 n_iS] (fun r w => r = trF nj st j 0 ∧ w = [oN b n_fa n_tr n_mi (nI nj) (nI nc) (nI wl) n_at n_rm n_rj n_rc n_nw n_ov n_rl (nI nr), ia (b 12) cB 5 (if ¬ j < 0 ∧ ¬ nI nj ≤ j then upd n_iS (zN j) 0 else n_iS)]) := by
  refine Mi.of (by decide) (Nat.le_of_ble_eq_true rfl) ?_
  intro zp ze zs zm zb zt zc zz zA hA C hnm
  refine v_lv0 [(0, .ref (b 0)), (1, .int j), (2, .int 0)] rfl ?_
  refine v_aload_n C dX5_strike_0 0 rfl ?_
  refine v_iload_n C dX5_strike_1 1 rfl ?_
  refine v_callRi C l_X5_140 (m_X5_isJuror b n_fa n_tr n_mi (nI nj) (nI nc) (nI wl) n_at n_rm n_rj n_rc n_nw n_ov n_rl (nI nr) j) (by decide) dX5_strike_2 [0] rfl 0 rfl rfl rfl (rest := []) rfl (Nat.le_of_ble_eq_true rfl) (by decide) (fun r1 h2 => ?_)
  subst h2
  by_cases c3 : ¬ j < 0 ∧ ¬ (nI nj) ≤ j
  · refine v_eqi 1 (bI_t c3) ?_
    obtain ⟨jN, hjN, rfl⟩ := ix_of' (by omega) c3
    have zjN : (nI jN).toNatClampNeg = jN := nI_clamp (by omega)
    refine v_if_ne C 10 dX5_strike_5 (by decide) (fun _ => ?_) (fun h => absurd h (by decide))
    refine v_aload_n C dX5_strike_10 0 rfl ?_
    refine v_get C f_X5_29 dX5_strike_11 0 rfl rfl ?_
    refine v_iload_n C dX5_strike_14 1 rfl ?_
    refine v_zaldN C dX5_strike_15 1 rfl jN rfl (by omega) (by decide) ?_
    refine v_eqi (bA st jN) (hiS jN hjN) ?_
    refine v_istore_n C [(3, .int (bA st jN)), (0, .ref (b 0)), (1, .int (nI jN)), (2, .int 0)] dX5_strike_16 (by decide) rfl ?_
    refine v_aload_n C dX5_strike_17 1 rfl ?_
    refine v_get C f_X5_29 dX5_strike_18 0 rfl rfl ?_
    refine v_iload_n C dX5_strike_21 2 rfl ?_
    refine v_iload_n C dX5_strike_22 3 rfl ?_
    refine v_zastN C [oN b n_fa n_tr n_mi (nI nj) (nI nc) (nI wl) n_at n_rm n_rj n_rc n_nw n_ov n_rl (nI nr), ia (b 12) cB 5 (upd n_iS jN 0)] dX5_strike_23 1 rfl jN rfl (by omega) (by decide) rfl rfl ?_
    refine v_iload_n C dX5_strike_24 0 rfl ?_
    refine v_iload_n C dX5_strike_25 3 rfl ?_
    refine v_icmp_ne C 33 dX5_strike_26 (by decide) (fun c4 => ?_) (fun c4 => ?_)
    · have zb5 : ¬ wbN st jN 0 = st := fun q => c4 ((wb_0 (by omega) (by omega)).mp q)
      refine v_iconst C 1 dX5_strike_33 (by decide) ?_
      exact v_reti C hA dX5_strike_34 rfl (⟨by first | (simp only [trF, bI, zjN, c3, c4, zb5, not_false_eq_true, not_true_eq_false, and_self, and_true, true_and, and_false, false_and, ↓reduceIte]; done) | (simp only [trF, bI, zjN, c3, c4, zb5, not_false_eq_true, not_true_eq_false, and_self, and_true, true_and, and_false, false_and, ↓reduceIte]; rfl) | (simp [trF, bI, zjN, c3, c4, zb5]; done) | rfl, by first | (simp only [trF, bI, zjN, c3, c4, zb5, not_false_eq_true, not_true_eq_false, and_self, and_true, true_and, and_false, false_and, ↓reduceIte]; done) | (simp only [trF, bI, zjN, c3, c4, zb5, not_false_eq_true, not_true_eq_false, and_self, and_true, true_and, and_false, false_and, ↓reduceIte]; rfl) | (simp [trF, bI, zjN, c3, c4, zb5]; done) | rfl⟩)
    · have zb6 : wbN st jN 0 = st := (wb_0 (by omega) (by omega)).mpr c4
      refine v_iconst C 0 dX5_strike_29 (by decide) ?_
      refine v_goto C 34 dX5_strike_30 (by decide) ?_
      exact v_reti C hA dX5_strike_34 rfl (⟨by first | (simp only [trF, bI, zjN, c3, c4, zb6, not_false_eq_true, not_true_eq_false, and_self, and_true, true_and, and_false, false_and, ↓reduceIte]; done) | (simp only [trF, bI, zjN, c3, c4, zb6, not_false_eq_true, not_true_eq_false, and_self, and_true, true_and, and_false, false_and, ↓reduceIte]; rfl) | (simp [trF, bI, zjN, c3, c4, zb6]; done) | rfl, by first | (simp only [trF, bI, zjN, c3, c4, zb6, not_false_eq_true, not_true_eq_false, and_self, and_true, true_and, and_false, false_and, ↓reduceIte]; done) | (simp only [trF, bI, zjN, c3, c4, zb6, not_false_eq_true, not_true_eq_false, and_self, and_true, true_and, and_false, false_and, ↓reduceIte]; rfl) | (simp [trF, bI, zjN, c3, c4, zb6]; done) | rfl⟩)
  · refine v_eqi 0 (bI_f c3) ?_
    refine v_if_ne C 10 dX5_strike_5 (by decide) (fun h => absurd h (by decide)) (fun _ => ?_)
    refine v_iconst C (-1) dX5_strike_8 (by decide) ?_
    exact v_reti C hA dX5_strike_9 rfl (⟨by first | (simp only [trF, bI, c3, not_false_eq_true, not_true_eq_false, and_self, and_true, true_and, and_false, false_and, ↓reduceIte]; done) | (simp only [trF, bI, c3, not_false_eq_true, not_true_eq_false, and_self, and_true, true_and, and_false, false_and, ↓reduceIte]; rfl) | (simp [trF, bI, c3]; done) | rfl, by first | (simp only [trF, bI, c3, not_false_eq_true, not_true_eq_false, and_self, and_true, true_and, and_false, false_and, ↓reduceIte]; done) | (simp only [trF, bI, c3, not_false_eq_true, not_true_eq_false, and_self, and_true, true_and, and_false, false_and, ↓reduceIte]; rfl) | (simp [trF, bI, c3]; done) | rfl⟩)
set_option maxHeartbeats 4000000 in
set_option maxRecDepth 100000 in
theorem m_X5_minutes {l : Launch} {D : va_G} {cI cB cS : ClassId} (b : Nat → Nat) (nj nc wl s0 st nr : Nat) (n_fa : Int32) (n_tr : Int32) (n_mi : Int32) (n_at : Int32) (n_rm : Int32) (n_rj : Int32) (n_rc : Int32) (n_nw : Int32) (n_ov : Int32) (n_rl : Int32) (v : Int32) (hnj : nj ≤ 5) (hnc : nc ≤ 5) (hwl : wl < 64) (hs0 : s0 < 2 ^ nj) (hst2 : st < 2 ^ nj) (hp5 : 2 ^ nj ≤ 32) (hnr : nr ≤ 8) : Mi l yX5_minutes cX5_minutes 3 (some .int) 1 22 D cI cB cS [.ref (b 0), .int v] [oN b n_fa n_tr n_mi (nI nj) (nI nc) (nI wl) n_at n_rm n_rj n_rc n_nw n_ov n_rl (nI nr)] (fun r w => r = miF nc n_mi v ∧ w = [oN b n_fa n_tr (miW nc n_mi v) (nI nj) (nI nc) (nI wl) n_at n_rm n_rj n_rc n_nw n_ov n_rl (nI nr)]) := by
  refine Mi.of (by decide) (Nat.le_of_ble_eq_true rfl) ?_
  intro zp ze zs zm zb zt zc zz zA hA C hnm
  refine v_lv0 [(0, .ref (b 0)), (1, .int v)] rfl ?_
  refine v_iload_n C dX5_minutes_0 1 rfl ?_
  refine v_iconst C 5 dX5_minutes_1 (by decide) ?_
  refine v_bipush C 60 dX5_minutes_2 (by decide) ?_
  refine v_callSi C l_X5_74 (m_X5_within v 5 60) (by decide) dX5_minutes_4 [] rfl rfl (rest := []) rfl (Nat.le_of_ble_eq_true rfl) (by decide) (fun r1 h2 => ?_)
  subst h2
  by_cases c3 : wib v (5 : Int32) (60 : Int32) = true
  · refine v_eqi 1 (bI_t c3) ?_
    rw [wib_60] at c3
    refine v_if_ne C 13 dX5_minutes_7 (by decide) (fun _ => ?_) (fun h => absurd h (by decide))
    refine v_aload_n C dX5_minutes_13 0 rfl ?_
    refine v_get C f_X5_81 dX5_minutes_14 0 rfl rfl ?_
    refine v_if_ne C 23 dX5_minutes_17 (by decide) (fun c4 => ?_) (fun c4 => ?_)
    · have nc4 : nc ≠ 0 := fun q => c4 (by rw [q] <;> rfl)
      have zc5 : ¬ nI nc ≤ 0 := by rw [nc0 hnc]; exact nc4
      have hnc1 : 1 ≤ nc := by omega
      refine v_aload_n C dX5_minutes_23 0 rfl ?_
      refine v_get C f_X5_108 dX5_minutes_24 0 rfl rfl ?_
      refine v_istore_n C [(2, .int n_mi), (0, .ref (b 0)), (1, .int v)] dX5_minutes_27 (by decide) rfl ?_
      refine v_aload_n C dX5_minutes_28 1 rfl ?_
      refine v_iload_n C dX5_minutes_29 2 rfl ?_
      refine v_put C p_X5_108 [oN b n_fa n_tr v (nI nj) (nI nc) (nI wl) n_at n_rm n_rj n_rc n_nw n_ov n_rl (nI nr)] dX5_minutes_30 0 rfl rfl rfl (Nat.le_of_ble_eq_true rfl) rfl ?_
      refine v_iload_n C dX5_minutes_33 0 rfl ?_
      exact v_reti C hA dX5_minutes_34 rfl (⟨by first | (simp only [miF, miW, bI, c3, c4, nc4, nc4, zc5, not_false_eq_true, not_true_eq_false, and_self, and_true, true_and, and_false, false_and, ↓reduceIte]; done) | (simp only [miF, miW, bI, c3, c4, nc4, nc4, zc5, not_false_eq_true, not_true_eq_false, and_self, and_true, true_and, and_false, false_and, ↓reduceIte]; rfl) | (simp [miF, miW, bI, c3, c4, nc4, nc4, zc5]; done) | rfl, by first | (simp only [miF, miW, bI, c3, c4, nc4, nc4, zc5, not_false_eq_true, not_true_eq_false, and_self, and_true, true_and, and_false, false_and, ↓reduceIte]; done) | (simp only [miF, miW, bI, c3, c4, nc4, nc4, zc5, not_false_eq_true, not_true_eq_false, and_self, and_true, true_and, and_false, false_and, ↓reduceIte]; rfl) | (simp [miF, miW, bI, c3, c4, nc4, nc4, zc5]; done) | rfl⟩)
    · have nc4 : nc = 0 := nI_eqP c4 (by omega) (by omega)
      have zc6 : nI nc ≤ 0 := by rw [nc0 hnc]; exact nc4
      refine v_bipush C (-3) dX5_minutes_20 (by decide) ?_
      exact v_reti C hA dX5_minutes_22 rfl (⟨by first | (simp only [miF, miW, bI, c3, c4, nc4, nc4, zc6, not_false_eq_true, not_true_eq_false, and_self, and_true, true_and, and_false, false_and, ↓reduceIte]; done) | (simp only [miF, miW, bI, c3, c4, nc4, nc4, zc6, not_false_eq_true, not_true_eq_false, and_self, and_true, true_and, and_false, false_and, ↓reduceIte]; rfl) | (simp [miF, miW, bI, c3, c4, nc4, nc4, zc6]; done) | rfl, by first | (simp only [miF, miW, bI, c3, c4, nc4, nc4, zc6, not_false_eq_true, not_true_eq_false, and_self, and_true, true_and, and_false, false_and, ↓reduceIte]; done) | (simp only [miF, miW, bI, c3, c4, nc4, nc4, zc6, not_false_eq_true, not_true_eq_false, and_self, and_true, true_and, and_false, false_and, ↓reduceIte]; rfl) | (simp [miF, miW, bI, c3, c4, nc4, nc4, zc6]; done) | rfl⟩)
  · refine v_eqi 0 (bI_f c3) ?_
    rw [wib_60] at c3
    have zw7 : ¬ (¬ v < 5 ∧ v ≤ 60 ∧ ¬ nI nc ≤ 0) := fun q => c3 ⟨q.1, q.2.1⟩
    refine v_if_ne C 13 dX5_minutes_7 (by decide) (fun h => absurd h (by decide)) (fun _ => ?_)
    refine v_bipush C (-2) dX5_minutes_10 (by decide) ?_
    exact v_reti C hA dX5_minutes_12 rfl (⟨by first | (simp only [miF, miW, bI, c3, zw7, not_false_eq_true, not_true_eq_false, and_self, and_true, true_and, and_false, false_and, ↓reduceIte]; done) | (simp only [miF, miW, bI, c3, zw7, not_false_eq_true, not_true_eq_false, and_self, and_true, true_and, and_false, false_and, ↓reduceIte]; rfl) | (simp [miF, miW, bI, c3, zw7]; done) | rfl, by first | (simp only [miF, miW, bI, c3, zw7, not_false_eq_true, not_true_eq_false, and_self, and_true, true_and, and_false, false_and, ↓reduceIte]; done) | (simp only [miF, miW, bI, c3, zw7, not_false_eq_true, not_true_eq_false, and_self, and_true, true_and, and_false, false_and, ↓reduceIte]; rfl) | (simp [miF, miW, bI, c3, zw7]; done) | rfl⟩)
set_option maxHeartbeats 4000000 in
set_option maxRecDepth 100000 in
theorem m_X5_reading {l : Launch} {D : va_G} {cI cB cS : ClassId} (b : Nat → Nat) (nj nc wl s0 st nr : Nat) (n_fa : Int32) (n_tr : Int32) (n_mi : Int32) (n_at : Int32) (n_rm : Int32) (n_rj : Int32) (n_rc : Int32) (n_nw : Int32) (n_ov : Int32) (n_rl : Int32) (n_rC : Nat → Int32) (n_rH : Nat → Int32) (c : Int32) (h : Int32) (hnj : nj ≤ 5) (hnc : nc ≤ 5) (hwl : wl < 64) (hs0 : s0 < 2 ^ nj) (hst2 : st < 2 ^ nj) (hp5 : 2 ^ nj ≤ 32) (hnr : nr ≤ 8) : Mi l yX5_reading cX5_reading 3 (some .int) 1 22 D cI cB cS [.ref (b 0), .int c, .int h] [oN b n_fa n_tr n_mi (nI nj) (nI nc) (nI wl) n_at n_rm n_rj n_rc n_nw n_ov n_rl (nI nr), ia (b 31) cI 8 n_rC, ia (b 32) cI 8 n_rH] (fun r w => r = rdF nc nr c h ∧ w = [oN b n_fa n_tr n_mi (nI nj) (nI nc) (nI wl) n_at n_rm n_rj n_rc n_nw n_ov n_rl (nI (rdN nc nr c h)), ia (b 31) cI 8 (rdC nc nr n_rC c h c), ia (b 32) cI 8 (rdC nc nr n_rH c h h)]) := by
  refine Mi.of (by decide) (Nat.le_of_ble_eq_true rfl) ?_
  intro zp ze zs zm zb zt zc zz zA hA C hnm
  refine v_lv0 [(0, .ref (b 0)), (1, .int c), (2, .int h)] rfl ?_
  refine v_aload_n C dX5_reading_0 0 rfl ?_
  refine v_iload_n C dX5_reading_1 1 rfl ?_
  refine v_callRi C l_X5_143 (m_X5_isCase b n_fa n_tr n_mi (nI nj) (nI nc) (nI wl) n_at n_rm n_rj n_rc n_nw n_ov n_rl (nI nr) c) (by decide) dX5_reading_2 [0] rfl 0 rfl rfl rfl (rest := []) rfl (Nat.le_of_ble_eq_true rfl) (by decide) (fun r1 h2 => ?_)
  subst h2
  by_cases c3 : ¬ c < 0 ∧ ¬ (nI nc) ≤ c
  · refine v_eqi 1 (bI_t c3) ?_
    obtain ⟨cN, hcN, rfl⟩ := ix_of' (by omega) c3
    have zcN : (nI cN).toNatClampNeg = cN := nI_clamp (by omega)
    refine v_if_ne C 10 dX5_reading_5 (by decide) (fun _ => ?_) (fun h => absurd h (by decide))
    refine v_iload_n C dX5_reading_10 2 rfl ?_
    refine v_iconst C 0 dX5_reading_11 (by decide) ?_
    refine v_iconst C 2 dX5_reading_12 (by decide) ?_
    refine v_callSi C l_X5_74 (m_X5_within h 0 2) (by decide) dX5_reading_13 [] rfl rfl (rest := []) rfl (Nat.le_of_ble_eq_true rfl) (by decide) (fun r4 h5 => ?_)
    subst h5
    by_cases c6 : wib h (0 : Int32) (2 : Int32) = true
    · refine v_eqi 1 (bI_t c6) ?_
      rw [wib_2] at c6
      refine v_if_ne C 22 dX5_reading_16 (by decide) (fun _ => ?_) (fun h => absurd h (by decide))
      refine v_aload_n C dX5_reading_22 0 rfl ?_
      refine v_get C f_X5_120 dX5_reading_23 0 rfl rfl ?_
      refine v_bipush C 8 dX5_reading_26 (by decide) ?_
      refine v_icmp_ne C 34 dX5_reading_28 (by decide) (fun c7 => ?_) (fun c7 => ?_)
      · have nc7 : nr ≠ 8 := fun q => c7 (by rw [q] <;> rfl)
        have zr8 : nr < 8 := by omega
        refine v_aload_n C dX5_reading_34 0 rfl ?_
        refine v_get C f_X5_62 dX5_reading_35 0 rfl rfl ?_
        refine v_aload_n C dX5_reading_38 0 rfl ?_
        refine v_get C f_X5_120 dX5_reading_39 0 rfl rfl ?_
        refine v_iload_n C dX5_reading_42 1 rfl ?_
        refine v_iastN C [oN b n_fa n_tr n_mi (nI nj) (nI nc) (nI wl) n_at n_rm n_rj n_rc n_nw n_ov n_rl (nI nr), ia (b 31) cI 8 (upd n_rC nr (nI cN)), ia (b 32) cI 8 n_rH] dX5_reading_43 1 rfl nr rfl (by omega) (by decide) rfl ?_
        refine v_aload_n C dX5_reading_44 0 rfl ?_
        refine v_get C f_X5_65 dX5_reading_45 0 rfl rfl ?_
        refine v_aload_n C dX5_reading_48 0 rfl ?_
        refine v_get C f_X5_120 dX5_reading_49 0 rfl rfl ?_
        refine v_iload_n C dX5_reading_52 2 rfl ?_
        refine v_iastN C [oN b n_fa n_tr n_mi (nI nj) (nI nc) (nI wl) n_at n_rm n_rj n_rc n_nw n_ov n_rl (nI nr), ia (b 31) cI 8 (upd n_rC nr (nI cN)), ia (b 32) cI 8 (upd n_rH nr h)] dX5_reading_53 2 rfl nr rfl (by omega) (by decide) rfl ?_
        refine v_aload_n C dX5_reading_54 0 rfl ?_
        refine v_dup C dX5_reading_55 rfl ?_
        refine v_get C f_X5_120 dX5_reading_56 0 rfl rfl ?_
        refine v_iconst C 1 dX5_reading_59 (by decide) ?_
        refine v_iadd C dX5_reading_60 ?_
        refine v_eqi (nI (nr + 1)) (nI_1 nr) ?_
        refine v_put C p_X5_120 [oN b n_fa n_tr n_mi (nI nj) (nI nc) (nI wl) n_at n_rm n_rj n_rc n_nw n_ov n_rl (nI (nr + 1)), ia (b 31) cI 8 (upd n_rC nr (nI cN)), ia (b 32) cI 8 (upd n_rH nr h)] dX5_reading_61 0 rfl rfl rfl (Nat.le_of_ble_eq_true rfl) rfl ?_
        refine v_aload_n C dX5_reading_64 0 rfl ?_
        refine v_get C f_X5_120 dX5_reading_65 0 rfl rfl ?_
        refine v_iconst C 1 dX5_reading_68 (by decide) ?_
        refine v_isub C dX5_reading_69 ?_
        refine v_eqi (nI nr) (nI_s1 nr) ?_
        exact v_reti C hA dX5_reading_70 rfl (⟨by first | (simp only [rdF, rdN, rdC, bI, zcN, c3, c6, c7, nc7, nc7, zr8, not_false_eq_true, not_true_eq_false, and_self, and_true, true_and, and_false, false_and, ↓reduceIte]; done) | (simp only [rdF, rdN, rdC, bI, zcN, c3, c6, c7, nc7, nc7, zr8, not_false_eq_true, not_true_eq_false, and_self, and_true, true_and, and_false, false_and, ↓reduceIte]; rfl) | (simp [rdF, rdN, rdC, bI, zcN, c3, c6, c7, nc7, nc7, zr8]; done) | rfl, by first | (simp only [rdF, rdN, rdC, bI, zcN, c3, c6, c7, nc7, nc7, zr8, not_false_eq_true, not_true_eq_false, and_self, and_true, true_and, and_false, false_and, ↓reduceIte]; done) | (simp only [rdF, rdN, rdC, bI, zcN, c3, c6, c7, nc7, nc7, zr8, not_false_eq_true, not_true_eq_false, and_self, and_true, true_and, and_false, false_and, ↓reduceIte]; rfl) | (simp [rdF, rdN, rdC, bI, zcN, c3, c6, c7, nc7, nc7, zr8]; done) | rfl⟩)
      · have nc7 : nr = 8 := nI_eqP c7 (by omega) (by omega)
        have zr9 : ¬ nr < 8 := by omega
        refine v_bipush C (-4) dX5_reading_31 (by decide) ?_
        exact v_reti C hA dX5_reading_33 rfl (⟨by first | (simp only [rdF, rdN, rdC, bI, zcN, c3, c6, c7, nc7, nc7, zr9, not_false_eq_true, not_true_eq_false, and_self, and_true, true_and, and_false, false_and, ↓reduceIte]; done) | (simp only [rdF, rdN, rdC, bI, zcN, c3, c6, c7, nc7, nc7, zr9, not_false_eq_true, not_true_eq_false, and_self, and_true, true_and, and_false, false_and, ↓reduceIte]; rfl) | (simp [rdF, rdN, rdC, bI, zcN, c3, c6, c7, nc7, nc7, zr9]; done) | rfl, by first | (simp only [rdF, rdN, rdC, bI, zcN, c3, c6, c7, nc7, nc7, zr9, not_false_eq_true, not_true_eq_false, and_self, and_true, true_and, and_false, false_and, ↓reduceIte]; done) | (simp only [rdF, rdN, rdC, bI, zcN, c3, c6, c7, nc7, nc7, zr9, not_false_eq_true, not_true_eq_false, and_self, and_true, true_and, and_false, false_and, ↓reduceIte]; rfl) | (simp [rdF, rdN, rdC, bI, zcN, c3, c6, c7, nc7, nc7, zr9]; done) | rfl⟩)
    · refine v_eqi 0 (bI_f c6) ?_
      rw [wib_2] at c6
      refine v_if_ne C 22 dX5_reading_16 (by decide) (fun h => absurd h (by decide)) (fun _ => ?_)
      refine v_bipush C (-2) dX5_reading_19 (by decide) ?_
      exact v_reti C hA dX5_reading_21 rfl (⟨by first | (simp only [rdF, rdN, rdC, bI, zcN, c3, c6, not_false_eq_true, not_true_eq_false, and_self, and_true, true_and, and_false, false_and, ↓reduceIte]; done) | (simp only [rdF, rdN, rdC, bI, zcN, c3, c6, not_false_eq_true, not_true_eq_false, and_self, and_true, true_and, and_false, false_and, ↓reduceIte]; rfl) | (simp [rdF, rdN, rdC, bI, zcN, c3, c6]; done) | rfl, by first | (simp only [rdF, rdN, rdC, bI, zcN, c3, c6, not_false_eq_true, not_true_eq_false, and_self, and_true, true_and, and_false, false_and, ↓reduceIte]; done) | (simp only [rdF, rdN, rdC, bI, zcN, c3, c6, not_false_eq_true, not_true_eq_false, and_self, and_true, true_and, and_false, false_and, ↓reduceIte]; rfl) | (simp [rdF, rdN, rdC, bI, zcN, c3, c6]; done) | rfl⟩)
  · refine v_eqi 0 (bI_f c3) ?_
    refine v_if_ne C 10 dX5_reading_5 (by decide) (fun h => absurd h (by decide)) (fun _ => ?_)
    refine v_iconst C (-1) dX5_reading_8 (by decide) ?_
    exact v_reti C hA dX5_reading_9 rfl (⟨by first | (simp only [rdF, rdN, rdC, bI, c3, not_false_eq_true, not_true_eq_false, and_self, and_true, true_and, and_false, false_and, ↓reduceIte]; done) | (simp only [rdF, rdN, rdC, bI, c3, not_false_eq_true, not_true_eq_false, and_self, and_true, true_and, and_false, false_and, ↓reduceIte]; rfl) | (simp [rdF, rdN, rdC, bI, c3]; done) | rfl, by first | (simp only [rdF, rdN, rdC, bI, c3, not_false_eq_true, not_true_eq_false, and_self, and_true, true_and, and_false, false_and, ↓reduceIte]; done) | (simp only [rdF, rdN, rdC, bI, c3, not_false_eq_true, not_true_eq_false, and_self, and_true, true_and, and_false, false_and, ↓reduceIte]; rfl) | (simp [rdF, rdN, rdC, bI, c3]; done) | rfl⟩)
set_option maxHeartbeats 4000000 in
set_option maxRecDepth 100000 in
theorem m_X5_back {l : Launch} {D : va_G} {cI cB cS : ClassId} (b : Nat → Nat) (nj nc wl s0 st nr : Nat) (n_fa : Int32) (n_tr : Int32) (n_mi : Int32) (n_at : Int32) (n_rm : Int32) (n_rj : Int32) (n_rc : Int32) (n_nw : Int32) (n_ov : Int32) (n_rl : Int32) (k : Int32) (hnj : nj ≤ 5) (hnc : nc ≤ 5) (hwl : wl < 64) (hs0 : s0 < 2 ^ nj) (hst2 : st < 2 ^ nj) (hp5 : 2 ^ nj ≤ 32) (hnr : nr ≤ 8) : Mi l yX5_back cX5_back 2 (some .int) 1 22 D cI cB cS [.ref (b 0), .int k] [oN b n_fa n_tr n_mi (nI nj) (nI nc) (nI wl) n_at n_rm n_rj n_rc n_nw n_ov n_rl (nI nr)] (fun r w => r = bkF nr k ∧ w = [oN b n_fa n_tr n_mi (nI nj) (nI nc) (nI wl) n_at n_rm n_rj n_rc n_nw n_ov n_rl (nI (bkN nr k))]) := by
  refine Mi.of (by decide) (Nat.le_of_ble_eq_true rfl) ?_
  intro zp ze zs zm zb zt zc zz zA hA C hnm
  refine v_lv0 [(0, .ref (b 0)), (1, .int k)] rfl ?_
  refine v_iload_n C dX5_back_0 1 rfl ?_
  refine v_iconst C 0 dX5_back_1 (by decide) ?_
  refine v_aload_n C dX5_back_2 0 rfl ?_
  refine v_get C f_X5_120 dX5_back_3 0 rfl rfl ?_
  refine v_callSi C l_X5_74 (m_X5_within k 0 (nI nr)) (by decide) dX5_back_6 [] rfl rfl (rest := []) rfl (Nat.le_of_ble_eq_true rfl) (by decide) (fun r1 h2 => ?_)
  subst h2
  by_cases c3 : wib k (0 : Int32) (nI nr) = true
  · refine v_eqi 1 (bI_t c3) ?_
    rw [wib_0] at c3
    refine v_if_ne C 15 dX5_back_9 (by decide) (fun _ => ?_) (fun h => absurd h (by decide))
    obtain ⟨kN, hkN, rfl⟩ := ix_le (by omega) c3.1 c3.2
    have zkN : (nI kN).toNatClampNeg = kN := nI_clamp (by omega)
    refine v_aload_n C dX5_back_15 0 rfl ?_
    refine v_dup C dX5_back_16 rfl ?_
    refine v_get C f_X5_120 dX5_back_17 0 rfl rfl ?_
    refine v_iload_n C dX5_back_20 1 rfl ?_
    refine v_isub C dX5_back_21 ?_
    refine v_eqi (nI (nr - kN)) (pk_sub (by omega)) ?_
    refine v_put C p_X5_120 [oN b n_fa n_tr n_mi (nI nj) (nI nc) (nI wl) n_at n_rm n_rj n_rc n_nw n_ov n_rl (nI (nr - kN))] dX5_back_22 0 rfl rfl rfl (Nat.le_of_ble_eq_true rfl) rfl ?_
    refine v_aload_n C dX5_back_25 0 rfl ?_
    refine v_get C f_X5_120 dX5_back_26 0 rfl rfl ?_
    exact v_reti C hA dX5_back_29 rfl (⟨by first | (simp only [bkF, bkN, bI, zkN, c3, not_false_eq_true, not_true_eq_false, and_self, and_true, true_and, and_false, false_and, ↓reduceIte]; done) | (simp only [bkF, bkN, bI, zkN, c3, not_false_eq_true, not_true_eq_false, and_self, and_true, true_and, and_false, false_and, ↓reduceIte]; rfl) | (simp [bkF, bkN, bI, zkN, c3]; done) | rfl, by first | (simp only [bkF, bkN, bI, zkN, c3, not_false_eq_true, not_true_eq_false, and_self, and_true, true_and, and_false, false_and, ↓reduceIte]; done) | (simp only [bkF, bkN, bI, zkN, c3, not_false_eq_true, not_true_eq_false, and_self, and_true, true_and, and_false, false_and, ↓reduceIte]; rfl) | (simp [bkF, bkN, bI, zkN, c3]; done) | rfl⟩)
  · refine v_eqi 0 (bI_f c3) ?_
    rw [wib_0] at c3
    refine v_if_ne C 15 dX5_back_9 (by decide) (fun h => absurd h (by decide)) (fun _ => ?_)
    refine v_bipush C (-2) dX5_back_12 (by decide) ?_
    exact v_reti C hA dX5_back_14 rfl (⟨by first | (simp only [bkF, bkN, bI, c3, not_false_eq_true, not_true_eq_false, and_self, and_true, true_and, and_false, false_and, ↓reduceIte]; done) | (simp only [bkF, bkN, bI, c3, not_false_eq_true, not_true_eq_false, and_self, and_true, true_and, and_false, false_and, ↓reduceIte]; rfl) | (simp [bkF, bkN, bI, c3]; done) | rfl, by first | (simp only [bkF, bkN, bI, c3, not_false_eq_true, not_true_eq_false, and_self, and_true, true_and, and_false, false_and, ↓reduceIte]; done) | (simp only [bkF, bkN, bI, c3, not_false_eq_true, not_true_eq_false, and_self, and_true, true_and, and_false, false_and, ↓reduceIte]; rfl) | (simp [bkF, bkN, bI, c3]; done) | rfl⟩)
set_option maxHeartbeats 4000000 in
set_option maxRecDepth 100000 in
theorem m_X5_begins {l : Launch} {D : va_G} {cI cB cS : ClassId} (b : Nat → Nat) (n_fa : Int32) (n_tr : Int32) (n_mi : Int32) (n_ju : Int32) (n_co : Int32) (n_cr : Int32) (n_at : Int32) (n_rm : Int32) (n_rj : Int32) (n_rc : Int32) (n_nw : Int32) (n_ov : Int32) (n_rl : Int32) (n_rd : Int32) (x : Int32) : Mv l yX5_begins cX5_begins 2 0 0 D cI cB cS [.ref (b 0), .int x] [oN b n_fa n_tr n_mi n_ju n_co n_cr n_at n_rm n_rj n_rc n_nw n_ov n_rl n_rd] (fun w => w = [oN b n_fa (31 * n_tr + x) n_mi n_ju n_co n_cr n_at n_rm n_rj n_rc n_nw n_ov n_rl n_rd]) := by
  refine Mv.of (by decide) (Nat.le_of_ble_eq_true rfl) ?_
  intro zp ze zs zm zb zt zc zz zA hA C hnm
  refine v_lv0 [(0, .ref (b 0)), (1, .int x)] rfl ?_
  refine v_aload_n C dX5_begins_0 0 rfl ?_
  refine v_bipush C 31 dX5_begins_1 (by decide) ?_
  refine v_aload_n C dX5_begins_3 0 rfl ?_
  refine v_get C f_X5_234 dX5_begins_4 0 rfl rfl ?_
  refine v_imul C dX5_begins_7 ?_
  refine v_iload_n C dX5_begins_8 1 rfl ?_
  refine v_iadd C dX5_begins_9 ?_
  refine v_put C p_X5_234 [oN b n_fa ((31 * n_tr) + x) n_mi n_ju n_co n_cr n_at n_rm n_rj n_rc n_nw n_ov n_rl n_rd] dX5_begins_10 0 rfl rfl rfl (Nat.le_of_ble_eq_true rfl) rfl ?_
  exact v_retv C hA dX5_begins_13 (rfl)
set_option maxHeartbeats 4000000 in
set_option maxRecDepth 100000 in
theorem m_X5_tell {l : Launch} {D : va_G} {cI cB cS : ClassId} (b : Nat → Nat) (nj nc wl s0 st nr : Nat) (n_fa : Int32) (n_tr : Int32) (n_mi : Int32) (n_at : Int32) (n_rm : Int32) (n_rj : Int32) (n_rc : Int32) (n_nw : Int32) (n_ov : Int32) (n_rl : Int32) (n_kd : Nat → Int32) (n_ag : Nat → Int32) (j : Int32) (hnj : nj ≤ 5) (hnc : nc ≤ 5) (hwl : wl < 64) (hs0 : s0 < 2 ^ nj) (hst2 : st < 2 ^ nj) (hp5 : 2 ^ nj ≤ 32) (hnr : nr ≤ 8) : Mi l yX5_tell cX5_tell 3 (some .int) 1 21 D cI cB cS [.ref (b 0), .int j] [oN b n_fa n_tr n_mi (nI nj) (nI nc) (nI wl) n_at n_rm n_rj n_rc n_nw n_ov n_rl (nI nr), ia (b 9) cI 5 n_kd, ia (b 10) cI 5 n_ag] (fun r w => r = tlF nj n_kd n_ag j ∧ w = [oN b n_fa (tlT nj n_kd n_tr j) n_mi (nI nj) (nI nc) (nI wl) n_at n_rm n_rj n_rc n_nw n_ov n_rl (nI nr), ia (b 9) cI 5 n_kd, ia (b 10) cI 5 n_ag]) := by
  refine Mi.of (by decide) (Nat.le_of_ble_eq_true rfl) ?_
  intro zp ze zs zm zb zt zc zz zA hA C hnm
  refine v_lv0 [(0, .ref (b 0)), (1, .int j)] rfl ?_
  refine v_aload_n C dX5_tell_0 0 rfl ?_
  refine v_iload_n C dX5_tell_1 1 rfl ?_
  refine v_callRi C l_X5_140 (m_X5_isJuror b n_fa n_tr n_mi (nI nj) (nI nc) (nI wl) n_at n_rm n_rj n_rc n_nw n_ov n_rl (nI nr) j) (by decide) dX5_tell_2 [0] rfl 0 rfl rfl rfl (rest := []) rfl (Nat.le_of_ble_eq_true rfl) (by decide) (fun r1 h2 => ?_)
  subst h2
  by_cases c3 : ¬ j < 0 ∧ ¬ (nI nj) ≤ j
  · refine v_eqi 1 (bI_t c3) ?_
    obtain ⟨jN, hjN, rfl⟩ := ix_of' (by omega) c3
    have zjN : (nI jN).toNatClampNeg = jN := nI_clamp (by omega)
    refine v_if_ne C 10 dX5_tell_5 (by decide) (fun _ => ?_) (fun h => absurd h (by decide))
    refine v_aload_n C dX5_tell_10 0 rfl ?_
    refine v_get C f_X5_22 dX5_tell_11 0 rfl rfl ?_
    refine v_iload_n C dX5_tell_14 1 rfl ?_
    refine v_ialdN C dX5_tell_15 2 rfl jN rfl (by omega) (by decide) ?_
    refine v_istore_n C [(2, .int (n_ag jN)), (0, .ref (b 0)), (1, .int (nI jN))] dX5_tell_16 (by decide) rfl ?_
    refine v_aload_n C dX5_tell_17 1 rfl ?_
    refine v_get C f_X5_19 dX5_tell_18 0 rfl rfl ?_
    refine v_iload_n C dX5_tell_21 2 rfl ?_
    refine v_ialdN C dX5_tell_22 1 rfl jN rfl (by omega) (by decide) ?_
    by_cases e4 : n_kd jN = 1
    · refine v_lookup C 48 dX5_tell_23 (by decide) (by rw [e4] <;> rfl) (by decide) ?_
      refine v_aload_n C dX5_tell_48 1 rfl ?_
      refine v_iconst C 2 dX5_tell_49 (by decide) ?_
      refine v_callMv C l_X5_237 (m_X5_begins b n_fa n_tr n_mi (nI nj) (nI nc) (nI wl) n_at n_rm n_rj n_rc n_nw n_ov n_rl (nI nr) 2) (by decide) dX5_tell_50 [0] [1, 2] (wr := [ia (b 9) cI 5 n_kd, ia (b 10) cI 5 n_ag]) (by decide) rfl rfl (by decide) (by decide) 0 rfl rfl rfl (rest := []) rfl (Nat.le_of_ble_eq_true rfl) (by decide) (fun w5 h6 => ?_)
      subst h6
      refine v_ws0 [ia (b 9) cI 5 n_kd, ia (b 10) cI 5 n_ag, oN b n_fa (31 * n_tr + (2 : Int32)) n_mi (nI nj) (nI nc) (nI wl) n_at n_rm n_rj n_rc n_nw n_ov n_rl (nI nr)] rfl ?_
      refine v_aload_n C dX5_tell_53 1 rfl ?_
      refine v_iconst C 1 dX5_tell_54 (by decide) ?_
      refine v_callMv C l_X5_237 (m_X5_begins b n_fa (31 * n_tr + (2 : Int32)) n_mi (nI nj) (nI nc) (nI wl) n_at n_rm n_rj n_rc n_nw n_ov n_rl (nI nr) 1) (by decide) dX5_tell_55 [2] [0, 1] (wr := [ia (b 9) cI 5 n_kd, ia (b 10) cI 5 n_ag]) (by decide) rfl rfl (by decide) (by decide) 2 rfl rfl rfl (rest := []) rfl (Nat.le_of_ble_eq_true rfl) (by decide) (fun w8 h9 => ?_)
      subst h9
      refine v_ws0 [ia (b 9) cI 5 n_kd, ia (b 10) cI 5 n_ag, oN b n_fa (31 * (31 * n_tr + (2 : Int32)) + (1 : Int32)) n_mi (nI nj) (nI nc) (nI wl) n_at n_rm n_rj n_rc n_nw n_ov n_rl (nI nr)] rfl ?_
      refine v_iload_n C dX5_tell_58 0 rfl ?_
      refine v_bipush C 100 dX5_tell_59 (by decide) ?_
      refine v_iadd C dX5_tell_61 ?_
      refine v_perm (ws' := [oN b n_fa (31 * (31 * n_tr + (2 : Int32)) + (1 : Int32)) n_mi (nI nj) (nI nc) (nI wl) n_at n_rm n_rj n_rc n_nw n_ov n_rl (nI nr), ia (b 9) cI 5 n_kd, ia (b 10) cI 5 n_ag]) [2, 0, 1] (by decide) rfl ?_
      exact v_reti C hA dX5_tell_62 rfl (⟨by first | (simp only [tlF, tlT, bI, zjN, c3, e4, not_false_eq_true, not_true_eq_false, and_self, and_true, true_and, and_false, false_and, ↓reduceIte]; done) | (simp only [tlF, tlT, bI, zjN, c3, e4, not_false_eq_true, not_true_eq_false, and_self, and_true, true_and, and_false, false_and, ↓reduceIte]; rfl) | (simp [tlF, tlT, bI, zjN, c3, e4]; done) | rfl, by first | (simp only [tlF, tlT, bI, zjN, c3, e4, not_false_eq_true, not_true_eq_false, and_self, and_true, true_and, and_false, false_and, ↓reduceIte]; done) | (simp only [tlF, tlT, bI, zjN, c3, e4, not_false_eq_true, not_true_eq_false, and_self, and_true, true_and, and_false, false_and, ↓reduceIte]; rfl) | (simp [tlF, tlT, bI, zjN, c3, e4]; done) | rfl⟩)
    by_cases e11 : n_kd jN = 2
    · refine v_lookup C 63 dX5_tell_23 (by decide) (by rw [e11] <;> rfl) (by decide) ?_
      refine v_aload_n C dX5_tell_63 1 rfl ?_
      refine v_iconst C 3 dX5_tell_64 (by decide) ?_
      refine v_callMv C l_X5_237 (m_X5_begins b n_fa n_tr n_mi (nI nj) (nI nc) (nI wl) n_at n_rm n_rj n_rc n_nw n_ov n_rl (nI nr) 3) (by decide) dX5_tell_65 [0] [1, 2] (wr := [ia (b 9) cI 5 n_kd, ia (b 10) cI 5 n_ag]) (by decide) rfl rfl (by decide) (by decide) 0 rfl rfl rfl (rest := []) rfl (Nat.le_of_ble_eq_true rfl) (by decide) (fun w12 h13 => ?_)
      subst h13
      refine v_ws0 [ia (b 9) cI 5 n_kd, ia (b 10) cI 5 n_ag, oN b n_fa (31 * n_tr + (3 : Int32)) n_mi (nI nj) (nI nc) (nI wl) n_at n_rm n_rj n_rc n_nw n_ov n_rl (nI nr)] rfl ?_
      refine v_aload_n C dX5_tell_68 1 rfl ?_
      refine v_iconst C 2 dX5_tell_69 (by decide) ?_
      refine v_callMv C l_X5_237 (m_X5_begins b n_fa (31 * n_tr + (3 : Int32)) n_mi (nI nj) (nI nc) (nI wl) n_at n_rm n_rj n_rc n_nw n_ov n_rl (nI nr) 2) (by decide) dX5_tell_70 [2] [0, 1] (wr := [ia (b 9) cI 5 n_kd, ia (b 10) cI 5 n_ag]) (by decide) rfl rfl (by decide) (by decide) 2 rfl rfl rfl (rest := []) rfl (Nat.le_of_ble_eq_true rfl) (by decide) (fun w15 h16 => ?_)
      subst h16
      refine v_ws0 [ia (b 9) cI 5 n_kd, ia (b 10) cI 5 n_ag, oN b n_fa (31 * (31 * n_tr + (3 : Int32)) + (2 : Int32)) n_mi (nI nj) (nI nc) (nI wl) n_at n_rm n_rj n_rc n_nw n_ov n_rl (nI nr)] rfl ?_
      refine v_aload_n C dX5_tell_73 1 rfl ?_
      refine v_iconst C 1 dX5_tell_74 (by decide) ?_
      refine v_callMv C l_X5_237 (m_X5_begins b n_fa (31 * (31 * n_tr + (3 : Int32)) + (2 : Int32)) n_mi (nI nj) (nI nc) (nI wl) n_at n_rm n_rj n_rc n_nw n_ov n_rl (nI nr) 1) (by decide) dX5_tell_75 [2] [0, 1] (wr := [ia (b 9) cI 5 n_kd, ia (b 10) cI 5 n_ag]) (by decide) rfl rfl (by decide) (by decide) 2 rfl rfl rfl (rest := []) rfl (Nat.le_of_ble_eq_true rfl) (by decide) (fun w18 h19 => ?_)
      subst h19
      refine v_ws0 [ia (b 9) cI 5 n_kd, ia (b 10) cI 5 n_ag, oN b n_fa (31 * (31 * (31 * n_tr + (3 : Int32)) + (2 : Int32)) + (1 : Int32)) n_mi (nI nj) (nI nc) (nI wl) n_at n_rm n_rj n_rc n_nw n_ov n_rl (nI nr)] rfl ?_
      refine v_aload_n C dX5_tell_78 1 rfl ?_
      refine v_iconst C 1 dX5_tell_79 (by decide) ?_
      refine v_callMv C l_X5_237 (m_X5_begins b n_fa (31 * (31 * (31 * n_tr + (3 : Int32)) + (2 : Int32)) + (1 : Int32)) n_mi (nI nj) (nI nc) (nI wl) n_at n_rm n_rj n_rc n_nw n_ov n_rl (nI nr) 1) (by decide) dX5_tell_80 [2] [0, 1] (wr := [ia (b 9) cI 5 n_kd, ia (b 10) cI 5 n_ag]) (by decide) rfl rfl (by decide) (by decide) 2 rfl rfl rfl (rest := []) rfl (Nat.le_of_ble_eq_true rfl) (by decide) (fun w21 h22 => ?_)
      subst h22
      refine v_ws0 [ia (b 9) cI 5 n_kd, ia (b 10) cI 5 n_ag, oN b n_fa (31 * (31 * (31 * (31 * n_tr + (3 : Int32)) + (2 : Int32)) + (1 : Int32)) + (1 : Int32)) n_mi (nI nj) (nI nc) (nI wl) n_at n_rm n_rj n_rc n_nw n_ov n_rl (nI nr)] rfl ?_
      refine v_iconst C 2 dX5_tell_83 (by decide) ?_
      refine v_iload_n C dX5_tell_84 0 rfl ?_
      refine v_imul C dX5_tell_85 ?_
      refine v_bipush C 100 dX5_tell_86 (by decide) ?_
      refine v_iadd C dX5_tell_88 ?_
      refine v_eqi (n_ag jN + 100 + n_ag jN) (two_x _) ?_
      refine v_perm (ws' := [oN b n_fa (31 * (31 * (31 * (31 * n_tr + (3 : Int32)) + (2 : Int32)) + (1 : Int32)) + (1 : Int32)) n_mi (nI nj) (nI nc) (nI wl) n_at n_rm n_rj n_rc n_nw n_ov n_rl (nI nr), ia (b 9) cI 5 n_kd, ia (b 10) cI 5 n_ag]) [2, 0, 1] (by decide) rfl ?_
      exact v_reti C hA dX5_tell_89 rfl (⟨by first | (simp only [tlF, tlT, bI, zjN, c3, e11, e4, not_false_eq_true, not_true_eq_false, and_self, and_true, true_and, and_false, false_and, ↓reduceIte]; done) | (simp only [tlF, tlT, bI, zjN, c3, e11, e4, not_false_eq_true, not_true_eq_false, and_self, and_true, true_and, and_false, false_and, ↓reduceIte]; rfl) | (simp [tlF, tlT, bI, zjN, c3, e11, e4]; done) | rfl, by first | (simp only [tlF, tlT, bI, zjN, c3, e11, e4, not_false_eq_true, not_true_eq_false, and_self, and_true, true_and, and_false, false_and, ↓reduceIte]; done) | (simp only [tlF, tlT, bI, zjN, c3, e11, e4, not_false_eq_true, not_true_eq_false, and_self, and_true, true_and, and_false, false_and, ↓reduceIte]; rfl) | (simp [tlF, tlT, bI, zjN, c3, e11, e4]; done) | rfl⟩)
    refine v_lookup C 90 dX5_tell_23 (by decide) (off := 67) (by rw [lv_osw e4 (by decide)]; rw [lv_osw e11 (by decide)]; rfl) (by decide) ?_
    refine v_aload_n C dX5_tell_90 1 rfl ?_
    refine v_iconst C 1 dX5_tell_91 (by decide) ?_
    refine v_callMv C l_X5_237 (m_X5_begins b n_fa n_tr n_mi (nI nj) (nI nc) (nI wl) n_at n_rm n_rj n_rc n_nw n_ov n_rl (nI nr) 1) (by decide) dX5_tell_92 [0] [1, 2] (wr := [ia (b 9) cI 5 n_kd, ia (b 10) cI 5 n_ag]) (by decide) rfl rfl (by decide) (by decide) 0 rfl rfl rfl (rest := []) rfl (Nat.le_of_ble_eq_true rfl) (by decide) (fun w24 h25 => ?_)
    subst h25
    refine v_ws0 [ia (b 9) cI 5 n_kd, ia (b 10) cI 5 n_ag, oN b n_fa (31 * n_tr + (1 : Int32)) n_mi (nI nj) (nI nc) (nI wl) n_at n_rm n_rj n_rc n_nw n_ov n_rl (nI nr)] rfl ?_
    refine v_iload_n C dX5_tell_95 0 rfl ?_
    refine v_perm (ws' := [oN b n_fa (31 * n_tr + (1 : Int32)) n_mi (nI nj) (nI nc) (nI wl) n_at n_rm n_rj n_rc n_nw n_ov n_rl (nI nr), ia (b 9) cI 5 n_kd, ia (b 10) cI 5 n_ag]) [2, 0, 1] (by decide) rfl ?_
    exact v_reti C hA dX5_tell_96 rfl (⟨by first | (simp only [tlF, tlT, bI, zjN, c3, e4, e11, not_false_eq_true, not_true_eq_false, and_self, and_true, true_and, and_false, false_and, ↓reduceIte]; done) | (simp only [tlF, tlT, bI, zjN, c3, e4, e11, not_false_eq_true, not_true_eq_false, and_self, and_true, true_and, and_false, false_and, ↓reduceIte]; rfl) | (simp [tlF, tlT, bI, zjN, c3, e4, e11]; done) | rfl, by first | (simp only [tlF, tlT, bI, zjN, c3, e4, e11, not_false_eq_true, not_true_eq_false, and_self, and_true, true_and, and_false, false_and, ↓reduceIte]; done) | (simp only [tlF, tlT, bI, zjN, c3, e4, e11, not_false_eq_true, not_true_eq_false, and_self, and_true, true_and, and_false, false_and, ↓reduceIte]; rfl) | (simp [tlF, tlT, bI, zjN, c3, e4, e11]; done) | rfl⟩)
  · refine v_eqi 0 (bI_f c3) ?_
    refine v_if_ne C 10 dX5_tell_5 (by decide) (fun h => absurd h (by decide)) (fun _ => ?_)
    refine v_iconst C (-1) dX5_tell_8 (by decide) ?_
    exact v_reti C hA dX5_tell_9 rfl (⟨by first | (simp only [tlF, tlT, bI, c3, not_false_eq_true, not_true_eq_false, and_self, and_true, true_and, and_false, false_and, ↓reduceIte]; done) | (simp only [tlF, tlT, bI, c3, not_false_eq_true, not_true_eq_false, and_self, and_true, true_and, and_false, false_and, ↓reduceIte]; rfl) | (simp [tlF, tlT, bI, c3]; done) | rfl, by first | (simp only [tlF, tlT, bI, c3, not_false_eq_true, not_true_eq_false, and_self, and_true, true_and, and_false, false_and, ↓reduceIte]; done) | (simp only [tlF, tlT, bI, c3, not_false_eq_true, not_true_eq_false, and_self, and_true, true_and, and_false, false_and, ↓reduceIte]; rfl) | (simp [tlF, tlT, bI, c3]; done) | rfl⟩)
set_option maxHeartbeats 4000000 in
set_option maxRecDepth 100000 in
theorem m_X5_hush {l : Launch} {D : va_G} {cI cB cS : ClassId} (b : Nat → Nat) (nj nc wl s0 st nr : Nat) (n_fa : Int32) (n_tr : Int32) (n_mi : Int32) (n_at : Int32) (n_rm : Int32) (n_rj : Int32) (n_rc : Int32) (n_nw : Int32) (n_ov : Int32) (n_rl : Int32) (n_kd : Nat → Int32) (j : Int32) (hnj : nj ≤ 5) (hnc : nc ≤ 5) (hwl : wl < 64) (hs0 : s0 < 2 ^ nj) (hst2 : st < 2 ^ nj) (hp5 : 2 ^ nj ≤ 32) (hnr : nr ≤ 8) : Mi l yX5_hush cX5_hush 2 (some .int) 1 21 D cI cB cS [.ref (b 0), .int j] [oN b n_fa n_tr n_mi (nI nj) (nI nc) (nI wl) n_at n_rm n_rj n_rc n_nw n_ov n_rl (nI nr), ia (b 9) cI 5 n_kd] (fun r w => r = huF nj n_kd j ∧ w = [oN b n_fa (huT nj n_kd n_tr j) n_mi (nI nj) (nI nc) (nI wl) n_at n_rm n_rj n_rc n_nw n_ov n_rl (nI nr), ia (b 9) cI 5 n_kd]) := by
  refine Mi.of (by decide) (Nat.le_of_ble_eq_true rfl) ?_
  intro zp ze zs zm zb zt zc zz zA hA C hnm
  refine v_lv0 [(0, .ref (b 0)), (1, .int j)] rfl ?_
  refine v_aload_n C dX5_hush_0 0 rfl ?_
  refine v_iload_n C dX5_hush_1 1 rfl ?_
  refine v_callRi C l_X5_140 (m_X5_isJuror b n_fa n_tr n_mi (nI nj) (nI nc) (nI wl) n_at n_rm n_rj n_rc n_nw n_ov n_rl (nI nr) j) (by decide) dX5_hush_2 [0] rfl 0 rfl rfl rfl (rest := []) rfl (Nat.le_of_ble_eq_true rfl) (by decide) (fun r1 h2 => ?_)
  subst h2
  by_cases c3 : ¬ j < 0 ∧ ¬ (nI nj) ≤ j
  · refine v_eqi 1 (bI_t c3) ?_
    obtain ⟨jN, hjN, rfl⟩ := ix_of' (by omega) c3
    have zjN : (nI jN).toNatClampNeg = jN := nI_clamp (by omega)
    refine v_if_ne C 10 dX5_hush_5 (by decide) (fun _ => ?_) (fun h => absurd h (by decide))
    refine v_aload_n C dX5_hush_10 0 rfl ?_
    refine v_aload_n C dX5_hush_11 0 rfl ?_
    refine v_get C f_X5_19 dX5_hush_12 0 rfl rfl ?_
    refine v_iload_n C dX5_hush_15 1 rfl ?_
    refine v_ialdN C dX5_hush_16 1 rfl jN rfl (by omega) (by decide) ?_
    refine v_iconst C 2 dX5_hush_17 (by decide) ?_
    refine v_icmp_ne C 25 dX5_hush_18 (by decide) (fun c4 => ?_) (fun c4 => ?_)
    · refine v_iconst C 4 dX5_hush_25 (by decide) ?_
      refine v_callMv C l_X5_237 (m_X5_begins b n_fa n_tr n_mi (nI nj) (nI nc) (nI wl) n_at n_rm n_rj n_rc n_nw n_ov n_rl (nI nr) 4) (by decide) dX5_hush_26 [0] [1] (wr := [ia (b 9) cI 5 n_kd]) (by decide) rfl rfl (by decide) (by decide) 0 rfl rfl rfl (rest := []) rfl (Nat.le_of_ble_eq_true rfl) (by decide) (fun w5 h6 => ?_)
      subst h6
      refine v_ws0 [ia (b 9) cI 5 n_kd, oN b n_fa (31 * n_tr + (4 : Int32)) n_mi (nI nj) (nI nc) (nI wl) n_at n_rm n_rj n_rc n_nw n_ov n_rl (nI nr)] rfl ?_
      refine v_aload_n C dX5_hush_29 0 rfl ?_
      refine v_get C f_X5_19 dX5_hush_30 1 rfl rfl ?_
      refine v_iload_n C dX5_hush_33 1 rfl ?_
      refine v_ialdN C dX5_hush_34 0 rfl jN rfl (by omega) (by decide) ?_
      refine v_iconst C 2 dX5_hush_35 (by decide) ?_
      refine v_icmp_ne C 44 dX5_hush_36 (by decide) (fun c8 => ?_) (fun c8 => ?_)
      · refine v_iload_n C dX5_hush_44 1 rfl ?_
        refine v_perm (ws' := [oN b n_fa (31 * n_tr + (4 : Int32)) n_mi (nI nj) (nI nc) (nI wl) n_at n_rm n_rj n_rc n_nw n_ov n_rl (nI nr), ia (b 9) cI 5 n_kd]) [1, 0] (by decide) rfl ?_
        exact v_reti C hA dX5_hush_45 rfl (⟨by first | (simp only [huF, huT, bI, zjN, c3, c4, c8, not_false_eq_true, not_true_eq_false, and_self, and_true, true_and, and_false, false_and, ↓reduceIte]; done) | (simp only [huF, huT, bI, zjN, c3, c4, c8, not_false_eq_true, not_true_eq_false, and_self, and_true, true_and, and_false, false_and, ↓reduceIte]; rfl) | (simp [huF, huT, bI, zjN, c3, c4, c8]; done) | rfl, by first | (simp only [huF, huT, bI, zjN, c3, c4, c8, not_false_eq_true, not_true_eq_false, and_self, and_true, true_and, and_false, false_and, ↓reduceIte]; done) | (simp only [huF, huT, bI, zjN, c3, c4, c8, not_false_eq_true, not_true_eq_false, and_self, and_true, true_and, and_false, false_and, ↓reduceIte]; rfl) | (simp [huF, huT, bI, zjN, c3, c4, c8]; done) | rfl⟩)
      · exact absurd c8 c4
    · refine v_iconst C 5 dX5_hush_21 (by decide) ?_
      refine v_goto C 26 dX5_hush_22 (by decide) ?_
      refine v_callMv C l_X5_237 (m_X5_begins b n_fa n_tr n_mi (nI nj) (nI nc) (nI wl) n_at n_rm n_rj n_rc n_nw n_ov n_rl (nI nr) 5) (by decide) dX5_hush_26 [0] [1] (wr := [ia (b 9) cI 5 n_kd]) (by decide) rfl rfl (by decide) (by decide) 0 rfl rfl rfl (rest := []) rfl (Nat.le_of_ble_eq_true rfl) (by decide) (fun w9 h10 => ?_)
      subst h10
      refine v_ws0 [ia (b 9) cI 5 n_kd, oN b n_fa (31 * n_tr + (5 : Int32)) n_mi (nI nj) (nI nc) (nI wl) n_at n_rm n_rj n_rc n_nw n_ov n_rl (nI nr)] rfl ?_
      refine v_aload_n C dX5_hush_29 0 rfl ?_
      refine v_get C f_X5_19 dX5_hush_30 1 rfl rfl ?_
      refine v_iload_n C dX5_hush_33 1 rfl ?_
      refine v_ialdN C dX5_hush_34 0 rfl jN rfl (by omega) (by decide) ?_
      refine v_iconst C 2 dX5_hush_35 (by decide) ?_
      refine v_icmp_ne C 44 dX5_hush_36 (by decide) (fun c12 => ?_) (fun c12 => ?_)
      · exact absurd c4 c12
      · refine v_bipush C 70 dX5_hush_39 (by decide) ?_
        refine v_goto C 45 dX5_hush_41 (by decide) ?_
        refine v_perm (ws' := [oN b n_fa (31 * n_tr + (5 : Int32)) n_mi (nI nj) (nI nc) (nI wl) n_at n_rm n_rj n_rc n_nw n_ov n_rl (nI nr), ia (b 9) cI 5 n_kd]) [1, 0] (by decide) rfl ?_
        exact v_reti C hA dX5_hush_45 rfl (⟨by first | (simp only [huF, huT, bI, zjN, c3, c4, c12, not_false_eq_true, not_true_eq_false, and_self, and_true, true_and, and_false, false_and, ↓reduceIte]; done) | (simp only [huF, huT, bI, zjN, c3, c4, c12, not_false_eq_true, not_true_eq_false, and_self, and_true, true_and, and_false, false_and, ↓reduceIte]; rfl) | (simp [huF, huT, bI, zjN, c3, c4, c12]; done) | rfl, by first | (simp only [huF, huT, bI, zjN, c3, c4, c12, not_false_eq_true, not_true_eq_false, and_self, and_true, true_and, and_false, false_and, ↓reduceIte]; done) | (simp only [huF, huT, bI, zjN, c3, c4, c12, not_false_eq_true, not_true_eq_false, and_self, and_true, true_and, and_false, false_and, ↓reduceIte]; rfl) | (simp [huF, huT, bI, zjN, c3, c4, c12]; done) | rfl⟩)
  · refine v_eqi 0 (bI_f c3) ?_
    refine v_if_ne C 10 dX5_hush_5 (by decide) (fun h => absurd h (by decide)) (fun _ => ?_)
    refine v_iconst C (-1) dX5_hush_8 (by decide) ?_
    exact v_reti C hA dX5_hush_9 rfl (⟨by first | (simp only [huF, huT, bI, c3, not_false_eq_true, not_true_eq_false, and_self, and_true, true_and, and_false, false_and, ↓reduceIte]; done) | (simp only [huF, huT, bI, c3, not_false_eq_true, not_true_eq_false, and_self, and_true, true_and, and_false, false_and, ↓reduceIte]; rfl) | (simp [huF, huT, bI, c3]; done) | rfl, by first | (simp only [huF, huT, bI, c3, not_false_eq_true, not_true_eq_false, and_self, and_true, true_and, and_false, false_and, ↓reduceIte]; done) | (simp only [huF, huT, bI, c3, not_false_eq_true, not_true_eq_false, and_self, and_true, true_and, and_false, false_and, ↓reduceIte]; rfl) | (simp [huF, huT, bI, c3]; done) | rfl⟩)
set_option maxHeartbeats 4000000 in
set_option maxRecDepth 100000 in
theorem m_X5_as {l : Launch} {D : va_G} {cI cB cS : ClassId} (b : Nat → Nat) (nj nc wl s0 st nr : Nat) (n_fa : Int32) (n_tr : Int32) (n_mi : Int32) (n_at : Int32) (n_rm : Int32) (n_rj : Int32) (n_rc : Int32) (n_nw : Int32) (n_ov : Int32) (n_rl : Int32) (n_kd : Nat → Int32) (j : Int32) (x : Int32) (hnj : nj ≤ 5) (hnc : nc ≤ 5) (hwl : wl < 64) (hs0 : s0 < 2 ^ nj) (hst2 : st < 2 ^ nj) (hp5 : 2 ^ nj ≤ 32) (hnr : nr ≤ 8) : Mi l yX5_as cX5_as 3 (some .int) 1 22 D cI cB cS [.ref (b 0), .int j, .int x] [oN b n_fa n_tr n_mi (nI nj) (nI nc) (nI wl) n_at n_rm n_rj n_rc n_nw n_ov n_rl (nI nr), ia (b 9) cI 5 n_kd] (fun r w => r = asF nj n_kd j x ∧ w = [oN b (asT nj n_kd j x) n_tr n_mi (nI nj) (nI nc) (nI wl) n_at n_rm n_rj n_rc n_nw n_ov n_rl (nI nr), ia (b 9) cI 5 n_kd]) := by
  refine Mi.of (by decide) (Nat.le_of_ble_eq_true rfl) ?_
  intro zp ze zs zm zb zt zc zz zA hA C hnm
  refine v_lv0 [(0, .ref (b 0)), (1, .int j), (2, .int x)] rfl ?_
  refine v_aload_n C dX5_as_0 0 rfl ?_
  refine v_iconst C 0 dX5_as_1 (by decide) ?_
  refine v_put C p_X5_68 [oN b 0 n_tr n_mi (nI nj) (nI nc) (nI wl) n_at n_rm n_rj n_rc n_nw n_ov n_rl (nI nr), ia (b 9) cI 5 n_kd] dX5_as_2 0 rfl rfl rfl (Nat.le_of_ble_eq_true rfl) rfl ?_
  refine v_aload_n C dX5_as_5 0 rfl ?_
  refine v_iload_n C dX5_as_6 1 rfl ?_
  refine v_callRi C l_X5_140 (m_X5_isJuror b 0 n_tr n_mi (nI nj) (nI nc) (nI wl) n_at n_rm n_rj n_rc n_nw n_ov n_rl (nI nr) j) (by decide) dX5_as_7 [0] rfl 0 rfl rfl rfl (rest := []) rfl (Nat.le_of_ble_eq_true rfl) (by decide) (fun r1 h2 => ?_)
  subst h2
  by_cases c3 : ¬ j < 0 ∧ ¬ (nI nj) ≤ j
  · refine v_eqi 1 (bI_t c3) ?_
    obtain ⟨jN, hjN, rfl⟩ := ix_of' (by omega) c3
    have zjN : (nI jN).toNatClampNeg = jN := nI_clamp (by omega)
    refine v_if_ne C 15 dX5_as_10 (by decide) (fun _ => ?_) (fun h => absurd h (by decide))
    refine v_iload_n C dX5_as_15 2 rfl ?_
    refine v_iconst C 0 dX5_as_16 (by decide) ?_
    refine v_iconst C 2 dX5_as_17 (by decide) ?_
    refine v_callSi C l_X5_74 (m_X5_within x 0 2) (by decide) dX5_as_18 [] rfl rfl (rest := []) rfl (Nat.le_of_ble_eq_true rfl) (by decide) (fun r4 h5 => ?_)
    subst h5
    by_cases c6 : wib x (0 : Int32) (2 : Int32) = true
    · refine v_eqi 1 (bI_t c6) ?_
      rw [wib_3] at c6
      refine v_if_ne C 27 dX5_as_21 (by decide) (fun _ => ?_) (fun h => absurd h (by decide))
      refine v_aload_n C dX5_as_27 0 rfl ?_
      refine v_get C f_X5_19 dX5_as_28 0 rfl rfl ?_
      refine v_iload_n C dX5_as_31 1 rfl ?_
      refine v_ialdN C dX5_as_32 1 rfl jN rfl (by omega) (by decide) ?_
      refine v_iload_n C dX5_as_33 2 rfl ?_
      refine v_icmp_lt C 41 dX5_as_34 (by decide) (fun c7 => ?_) (fun c7 => ?_)
      · have zl : ¬ x ≤ n_kd jN := Int32.not_le.mpr c7
        refine v_aload_n C dX5_as_41 0 rfl ?_
        refine v_iconst C 2 dX5_as_42 (by decide) ?_
        refine v_callMi C l_X5_98 (m_X5_fails b 0 n_tr n_mi (nI nj) (nI nc) (nI wl) n_at n_rm n_rj n_rc n_nw n_ov n_rl (nI nr) 2) (by decide) dX5_as_43 [0] [1] (wr := [ia (b 9) cI 5 n_kd]) (by decide) rfl rfl (by decide) (by decide) 0 rfl rfl rfl (rest := []) rfl (Nat.le_of_ble_eq_true rfl) (by decide) (fun r10 w8 h9 => ?_)
        obtain ⟨rfl, rfl⟩ := h9
        refine v_ws0 [ia (b 9) cI 5 n_kd, oN b (2 : Int32) n_tr n_mi (nI nj) (nI nc) (nI wl) n_at n_rm n_rj n_rc n_nw n_ov n_rl (nI nr)] rfl ?_
        refine v_perm (ws' := [oN b (2 : Int32) n_tr n_mi (nI nj) (nI nc) (nI wl) n_at n_rm n_rj n_rc n_nw n_ov n_rl (nI nr), ia (b 9) cI 5 n_kd]) [1, 0] (by decide) rfl ?_
        exact v_reti C hA dX5_as_46 rfl (⟨by first | (simp only [asF, asT, bI, zjN, c3, c6, c7, zl, not_false_eq_true, not_true_eq_false, and_self, and_true, true_and, and_false, false_and, ↓reduceIte]; done) | (simp only [asF, asT, bI, zjN, c3, c6, c7, zl, not_false_eq_true, not_true_eq_false, and_self, and_true, true_and, and_false, false_and, ↓reduceIte]; rfl) | (simp [asF, asT, bI, zjN, c3, c6, c7, zl]; done) | rfl, by first | (simp only [asF, asT, bI, zjN, c3, c6, c7, zl, not_false_eq_true, not_true_eq_false, and_self, and_true, true_and, and_false, false_and, ↓reduceIte]; done) | (simp only [asF, asT, bI, zjN, c3, c6, c7, zl, not_false_eq_true, not_true_eq_false, and_self, and_true, true_and, and_false, false_and, ↓reduceIte]; rfl) | (simp [asF, asT, bI, zjN, c3, c6, c7, zl]; done) | rfl⟩)
      · have zl : x ≤ n_kd jN := Int32.not_lt.mp c7
        refine v_iconst C 1 dX5_as_37 (by decide) ?_
        refine v_goto C 46 dX5_as_38 (by decide) ?_
        exact v_reti C hA dX5_as_46 rfl (⟨by first | (simp only [asF, asT, bI, zjN, c3, c6, c7, zl, not_false_eq_true, not_true_eq_false, and_self, and_true, true_and, and_false, false_and, ↓reduceIte]; done) | (simp only [asF, asT, bI, zjN, c3, c6, c7, zl, not_false_eq_true, not_true_eq_false, and_self, and_true, true_and, and_false, false_and, ↓reduceIte]; rfl) | (simp [asF, asT, bI, zjN, c3, c6, c7, zl]; done) | rfl, by first | (simp only [asF, asT, bI, zjN, c3, c6, c7, zl, not_false_eq_true, not_true_eq_false, and_self, and_true, true_and, and_false, false_and, ↓reduceIte]; done) | (simp only [asF, asT, bI, zjN, c3, c6, c7, zl, not_false_eq_true, not_true_eq_false, and_self, and_true, true_and, and_false, false_and, ↓reduceIte]; rfl) | (simp [asF, asT, bI, zjN, c3, c6, c7, zl]; done) | rfl⟩)
    · refine v_eqi 0 (bI_f c6) ?_
      rw [wib_3] at c6
      refine v_if_ne C 27 dX5_as_21 (by decide) (fun h => absurd h (by decide)) (fun _ => ?_)
      refine v_bipush C (-2) dX5_as_24 (by decide) ?_
      exact v_reti C hA dX5_as_26 rfl (⟨by first | (simp only [asF, asT, bI, zjN, c3, c6, not_false_eq_true, not_true_eq_false, and_self, and_true, true_and, and_false, false_and, ↓reduceIte]; done) | (simp only [asF, asT, bI, zjN, c3, c6, not_false_eq_true, not_true_eq_false, and_self, and_true, true_and, and_false, false_and, ↓reduceIte]; rfl) | (simp [asF, asT, bI, zjN, c3, c6]; done) | rfl, by first | (simp only [asF, asT, bI, zjN, c3, c6, not_false_eq_true, not_true_eq_false, and_self, and_true, true_and, and_false, false_and, ↓reduceIte]; done) | (simp only [asF, asT, bI, zjN, c3, c6, not_false_eq_true, not_true_eq_false, and_self, and_true, true_and, and_false, false_and, ↓reduceIte]; rfl) | (simp [asF, asT, bI, zjN, c3, c6]; done) | rfl⟩)
  · refine v_eqi 0 (bI_f c3) ?_
    refine v_if_ne C 15 dX5_as_10 (by decide) (fun h => absurd h (by decide)) (fun _ => ?_)
    refine v_iconst C (-1) dX5_as_13 (by decide) ?_
    exact v_reti C hA dX5_as_14 rfl (⟨by first | (simp only [asF, asT, bI, c3, not_false_eq_true, not_true_eq_false, and_self, and_true, true_and, and_false, false_and, ↓reduceIte]; done) | (simp only [asF, asT, bI, c3, not_false_eq_true, not_true_eq_false, and_self, and_true, true_and, and_false, false_and, ↓reduceIte]; rfl) | (simp [asF, asT, bI, c3]; done) | rfl, by first | (simp only [asF, asT, bI, c3, not_false_eq_true, not_true_eq_false, and_self, and_true, true_and, and_false, false_and, ↓reduceIte]; done) | (simp only [asF, asT, bI, c3, not_false_eq_true, not_true_eq_false, and_self, and_true, true_and, and_false, false_and, ↓reduceIte]; rfl) | (simp [asF, asT, bI, c3]; done) | rfl⟩)
