theorem od_eq {nj nc u cN : Nat} {gu : Nat → Nat → Bool} {x : Int32} (h1 : ¬ nI cN < 0 ∧ ¬ nI nc ≤ nI cN) (h2 : ¬ x < 0 ∧ x ≤ 1) (z : (nI cN).toNatClampNeg = cN) (hu : ct (gu cN) (2 ^ nj) = u) : odF nj nc gu (nI cN) x = if x = 0 then lN (hvN 6 (u, 2 ^ nj)).1 else lN (hvN 6 (u, 2 ^ nj)).2 := by
  rw [odF, if_pos ⟨h1, h2⟩]
  have e : zN (nI cN) = cN := z
  rw [e, hu]
theorem cmp0 {n : Nat} (h : n < 2 ^ 31) : lg_cmp (lN n) 0 = 0 ↔ n = 0 := by
  have e : lN n = 0 ↔ n = 0 := lN_eq (b := 0) h (by omega)
  have g : lN n > 0 ↔ 0 < n := lN_lt (a := 0) (by omega) h
  unfold lg_cmp
  by_cases q : n = 0
  · rw [if_neg (by rw [g]; omega), if_pos (e.mpr q)]
    simp [q]
  · rw [if_pos (g.mpr (by omega))]
    simp [q]
theorem lN_n0 {n : Nat} (h : n < 2 ^ 31) (h0 : n ≠ 0) : ¬ lN n = 0 := fun q => h0 ((lN_eq (b := 0) h (by omega)).mp q)
theorem l_rem : ∀ x, x ≤ 32 → ∀ y, y ≤ 32 → ¬ y = 0 → lN x - lN x / lN y * lN y = lN (x % y) := by
  have h : ∀ x, x < 33 → ∀ y, y < 33 → ¬ y = 0 → lN x - lN x / lN y * lN y = lN (x % y) := by decide +kernel
  exact fun x hx y hy => h x (by omega) y (by omega)
theorem l_div : ∀ x, x ≤ 32 → ∀ y, y ≤ 32 → ¬ y = 0 → lN x / lN y = lN (x / y) := by
  have h : ∀ x, x < 33 → ∀ y, y < 33 → ¬ y = 0 → lN x / lN y = lN (x / y) := by decide +kernel
  exact fun x hx y hy => h x (by omega) y (by omega)
theorem hv_gcd : ∀ n, n < 6 → ∀ u, u < 2 ^ n + 1 → lN (u / Nat.gcd u (2 ^ n)) = lN (hvN 6 (u, 2 ^ n)).1 ∧ lN (2 ^ n / Nat.gcd u (2 ^ n)) = lN (hvN 6 (u, 2 ^ n)).2 := by decide +kernel
theorem raw_lsh : ∀ n, n < 6 → (1 : Int64) <<< ((nI n).toInt64 &&& 63) = lN (2 ^ n) := by decide +kernel
def foI (v : Nat → Int32) (sg : Int32) (nc k : Nat) (be hi : Int32) (bk : Nat) (fo : Nat → Int32) : Prop := (k = 0 ∧ be = -9) ∨ (0 < k ∧ be = v bk ∧ hi = sg * v bk ∧ bk < fct nc ∧ ∀ p, p < nc → fo p = nI (prm nc bk p))
theorem fo_zero {v : Nat → Int32} {sg be hi : Int32} {nc k bk : Nat} {fo : Nat → Int32} (h : foI v sg nc k be hi bk fo) (hb : bk < fct nc → 0 ≤ (v bk).toInt ∧ (v bk).toInt ≤ 9 * nc) (he : be = -9) : k = 0 := by
  rcases h with h | ⟨h1, h2, h3, h4, h5⟩
  · exact h.1
  · have := (hb h4).1
    rw [← h2, he] at this
    exact absurd this (by decide)
theorem fo_some {v : Nat → Int32} {sg be hi : Int32} {nc k bk : Nat} {fo : Nat → Int32} (h : foI v sg nc k be hi bk fo) (he : ¬ be = -9) : 0 < k ∧ be = v bk ∧ hi = sg * v bk ∧ bk < fct nc ∧ ∀ p, p < nc → fo p = nI (prm nc bk p) := h.resolve_left (fun q => he q.2)
theorem fo_first {v : Nat → Int32} {sg : Int32} {k : Nat} (h : k = 0) (hv : ¬ sg * v 0 ≤ -1000) : fhS v sg (k + 1) = (sg * v k, k) := by
  subst h
  rw [fhS, fhS, if_neg hv]
theorem le_1 {x y : Int32} {n : Nat} (_ : 0 ≤ x.toInt ∧ x.toInt ≤ 9 * n) (_ : 0 ≤ y.toInt ∧ y.toInt ≤ 9 * n) (_ : n ≤ 5) : 1 * x ≤ 1 * y ↔ x ≤ y := by rw [Int32.one_mul, Int32.one_mul]
theorem neg_i {x : Int32} {n : Nat} (hn : n ≤ 5) (h : 0 ≤ x.toInt ∧ x.toInt ≤ 9 * n) : ((-1) * x).toInt = -x.toInt := by
  rw [Int32.toInt_mul]
  have : (-1 : Int32).toInt = -1 := by decide
  rw [this, Int.neg_one_mul]
  apply Int.bmod_eq_of_le <;> omega
theorem le_n {x y : Int32} {n : Nat} (hx : 0 ≤ x.toInt ∧ x.toInt ≤ 9 * n) (hy : 0 ≤ y.toInt ∧ y.toInt ≤ 9 * n) (hn : n ≤ 5) : (-1) * x ≤ (-1) * y ↔ y ≤ x := by
  rw [Int32.le_iff_toInt_le, Int32.le_iff_toInt_le, neg_i hn hx, neg_i hn hy]
  omega
theorem sg2_1 (x : Int32) : 1 * (1 * x) = x := by rw [Int32.one_mul, Int32.one_mul]
theorem sg2_n (x : Int32) : (-1) * ((-1) * x) = x := by rw [← Int32.mul_assoc, show (-1 : Int32) * (-1) = 1 from by decide, Int32.one_mul]
theorem m1_le {k : Int32} (h : -1 ≤ k) (h2 : ¬ k = -1) : 0 ≤ k := by
  rw [Int32.le_iff_toInt_le] at *
  have e1 : (-1 : Int32).toInt = -1 := by decide
  have e0 : (0 : Int32).toInt = 0 := by decide
  rw [e1] at h
  rw [e0]
  have : k.toInt ≠ -1 := fun q => h2 (Int32.toInt_inj.mp (by rw [q, e1]))
  omega
theorem m1_lt {n : Nat} (h : n < 2 ^ 31) : (-1 : Int32) < nI n := by
  rw [Int32.lt_iff_toInt_lt, nI_toInt h]
  have e1 : (-1 : Int32).toInt = -1 := by decide
  rw [e1]
  omega
set_option maxHeartbeats 4000000 in
set_option maxRecDepth 100000 in
theorem m_X5_inLeastTerms {l : Launch} {D : va_G} {cI cB cS : ClassId} (u n : Nat) (x : Int32) (hn : n ≤ 5) (hu : u ≤ 2 ^ n) (hn5 : 2 ^ n ≤ 32) : Rl l yX5_inLeastTerms cX5_inLeastTerms 11 0 0 D cI cB cS [.long (lN u), .long (lN (2 ^ n)), .int x] [] (fun r => r = (if x = 0 then lN (hvN 6 (u, 2 ^ n)).1 else lN (hvN 6 (u, 2 ^ n)).2)) := by
  refine Rl.of (by decide) (Nat.le_of_ble_eq_true rfl) ?_
  intro zp ze zs zm zb zt zc C
  refine v_lv0 [(0, .long (lN u)), (2, .long (lN (2 ^ n))), (4, .int x)] rfl ?_
  refine v_lload_n C dX5_inLeastTerms_0 0 rfl ?_
  refine v_lstore C [(5, .long (lN u)), (0, .long (lN u)), (2, .long (lN (2 ^ n))), (4, .int x)] dX5_inLeastTerms_1 (by decide) rfl ?_
  refine v_lload_n C dX5_inLeastTerms_3 2 rfl ?_
  refine v_lstore C [(7, .long (lN (2 ^ n))), (5, .long (lN u)), (0, .long (lN u)), (2, .long (lN (2 ^ n))), (4, .int x)] dX5_inLeastTerms_4 (by decide) rfl ?_
  have lp : ∀ (n_2 : Nat) (xl : Nat) (yl : Nat), yl < n_2 → (xl ≤ 32 ∧ yl ≤ 32) → (Nat.gcd xl yl = Nat.gcd u (2 ^ n)) → V zp l ze (rmOf 0 0) zs zm [.long (lN u), .long (lN (2 ^ n)), .int x].toArray zb zt zc D (IR zs) (QRl zb [.long (lN u), .long (lN (2 ^ n)), .int x].toArray zs (fun r => r = (if x = 0 then lN (hvN 6 (u, 2 ^ n)).1 else lN (hvN 6 (u, 2 ^ n)).2))) 0 0 11 [] [(7, .long (lN yl)), (5, .long (lN xl)), (0, .long (lN u)), (2, .long (lN (2 ^ n))), (4, .int x)] 6 [] := by
    intro n_2
    induction n_2 with
    | zero => intro xl yl b1; exact absurd b1 (by omega)
    | succ n_2 ihn_2 =>
      intro xl yl b1 hx hg
      refine v_lload C dX5_inLeastTerms_6 0 rfl ?_
      refine v_lconst C 0 dX5_inLeastTerms_8 (by decide) ?_
      refine v_lcmp C dX5_inLeastTerms_9 ?_
      refine v_if_eq C 31 dX5_inLeastTerms_10 (by decide) (fun c3 => ?_) (fun c3 => ?_)
      · have hy0 : yl = 0 := (cmp0 (by omega)).mp c3
        have hxe : xl = Nat.gcd u (2 ^ n) := by rw [← hg, hy0, Nat.gcd_zero_right]
        have hxp : 0 < xl := by rw [hxe]; exact Nat.gcd_pos_of_pos_right _ (Nat.pow_pos (by omega))
        refine v_iload C dX5_inLeastTerms_31 4 rfl ?_
        refine v_if_ne C 43 dX5_inLeastTerms_33 (by decide) (fun c4 => ?_) (fun c4 => ?_)
        · refine v_lload_n C dX5_inLeastTerms_43 3 rfl ?_
          refine v_lload C dX5_inLeastTerms_44 1 rfl ?_
          refine v_ldiv C dX5_inLeastTerms_46 (lN_n0 (by omega) (by omega)) ?_
          exact v_retRl C dX5_inLeastTerms_47 (by rw [if_neg c4, l_div _ (by omega) xl (by omega) (by omega), hxe, (hv_gcd n (by omega) u (by omega)).2])
        · refine v_lload_n C dX5_inLeastTerms_36 2 rfl ?_
          refine v_lload C dX5_inLeastTerms_37 1 rfl ?_
          refine v_ldiv C dX5_inLeastTerms_39 (lN_n0 (by omega) (by omega)) ?_
          refine v_goto C 47 dX5_inLeastTerms_40 (by decide) ?_
          exact v_retRl C dX5_inLeastTerms_47 (by rw [if_pos c4, l_div _ (by omega) xl (by omega) (by omega), hxe, (hv_gcd n (by omega) u (by omega)).1])
      · have hy0 : ¬ yl = 0 := fun q => c3 ((cmp0 (by omega)).mpr q)
        refine v_lload C dX5_inLeastTerms_13 1 rfl ?_
        refine v_lload C dX5_inLeastTerms_15 0 rfl ?_
        refine v_lrem C dX5_inLeastTerms_17 (lN_n0 (by omega) (by omega)) ?_
        refine v_st0 [.long (lN (xl % yl))] (by rw [l_rem xl (by omega) yl (by omega) hy0]) ?_
        refine v_lstore C [(9, .long (lN (xl % yl))), (7, .long (lN yl)), (5, .long (lN xl)), (0, .long (lN u)), (2, .long (lN (2 ^ n))), (4, .int x)] dX5_inLeastTerms_18 (by decide) rfl ?_
        refine v_lload C dX5_inLeastTerms_20 1 rfl ?_
        refine v_lstore C [(5, .long (lN yl)), (9, .long (lN (xl % yl))), (7, .long (lN yl)), (0, .long (lN u)), (2, .long (lN (2 ^ n))), (4, .int x)] dX5_inLeastTerms_22 (by decide) rfl ?_
        refine v_lload C dX5_inLeastTerms_24 1 rfl ?_
        refine v_lstore C [(7, .long (lN (xl % yl))), (5, .long (lN yl)), (9, .long (lN (xl % yl))), (0, .long (lN u)), (2, .long (lN (2 ^ n))), (4, .int x)] dX5_inLeastTerms_26 (by decide) rfl ?_
        refine v_goto C 6 dX5_inLeastTerms_28 (by decide) ?_
        have hml := Nat.mod_lt xl (show 0 < yl by omega)
        refine v_loc [0, 1, 3, 4, 5] (lv' := [(7, .long (lN (xl % yl))), (5, .long (lN yl)), (0, .long (lN u)), (2, .long (lN (2 ^ n))), (4, .int x)]) rfl ?_
        exact ihn_2 yl (xl % yl) (by omega) (by have := Nat.mod_lt xl (show 0 < yl by omega); omega) (by rw [← hg, Nat.gcd_comm xl yl, Nat.gcd_rec yl xl, Nat.gcd_comm])
  exact lp ((2 ^ n) + 1) u (2 ^ n) (by omega) (by omega) rfl
set_option maxHeartbeats 4000000 in
set_option maxRecDepth 100000 in
theorem m_X5_odds {l : Launch} {D : va_G} {cI cB cS : ClassId} (b : Nat → Nat) (nj nc wl s0 st nr : Nat) (dn : Nat → Nat) (n_fa : Int32) (n_tr : Int32) (n_mi : Int32) (n_at : Int32) (n_rm : Int32) (n_rj : Int32) (n_rc : Int32) (n_nw : Int32) (n_ov : Int32) (n_rl : Int32) (n_kd : Nat → Int32) (n_ag : Nat → Int32) (n_hS : Nat → Int32) (n_iS : Nat → Int32) (n_iE : Nat → Int32) (n_de : Nat → Int32) (n_fr : Nat → Int32) (n_ho : Nat → Int32) (n_vd : Nat → Int32) (n_rw : Nat → Int32) (n_we : Nat → Int32) (c : Int32) (x : Int32) (hnj : nj ≤ 5) (hnc : nc ≤ 5) (hwl : wl < 64) (hs0 : s0 < 2 ^ nj) (hst2 : st < 2 ^ nj) (hp5 : 2 ^ nj ≤ 32) (hnr : nr ≤ 8) (hhS : ∀ j, j < nj → n_hS j = bA s0 j) (hiS : ∀ j, j < nj → n_iS j = bA st j) (hde : ∀ c, c < nc → n_de c = nI (dn c) ∧ dn c < 6) : Ml l yX5_odds cX5_odds 6 6 133 D cI cB cS [.ref (b 0), .int c, .int x] [oN b n_fa n_tr n_mi (nI nj) (nI nc) (nI wl) n_at n_rm n_rj n_rc n_nw n_ov n_rl (nI nr), ia (b 9) cI 5 n_kd, ia (b 10) cI 5 n_ag, ia (b 11) cB 5 n_hS, ia (b 12) cB 5 n_iS, ia (b 26) cB 5 n_iE, ia (b 13) cI 5 n_de, ia (b 14) cI 5 n_fr, ia (b 24) cI 5 n_ho, ia (b 25) cI 6 n_vd, ia (b 28) cI 5 n_rw, ia (b 15) cI 5 n_we] (fun r w => ∃ (nw' : Int32) (ov' : Int32) (ho' : Nat → Int32) (vd' : Nat → Int32) (iE' : Nat → Int32) (rl' : Int32) (rw' : Nat → Int32), r = odF nj nc (fun cx yx => decide ((sitS nj n_kd n_ag yx wl dn n_fr n_we n_mi s0 (fun p => p) nc).1 cx = 1)) c x ∧ w = [oN b n_fa n_tr n_mi (nI nj) (nI nc) (nI wl) n_at n_rm n_rj n_rc nw' ov' rl' (nI nr), ia (b 9) cI 5 n_kd, ia (b 10) cI 5 n_ag, ia (b 11) cB 5 n_hS, ia (b 12) cB 5 n_iS, ia (b 26) cB 5 iE', ia (b 13) cI 5 n_de, ia (b 14) cI 5 n_fr, ia (b 24) cI 5 ho', ia (b 25) cI 6 vd', ia (b 28) cI 5 rw', ia (b 15) cI 5 n_we]) := by
  refine Ml.of (by decide) (Nat.le_of_ble_eq_true rfl) ?_
  intro zp ze zs zm zb zt zc zz zA hA C hnm
  refine v_lv0 [(0, .ref (b 0)), (1, .int c), (2, .int x)] rfl ?_
  refine v_aload_n C dX5_odds_0 0 rfl ?_
  refine v_iload_n C dX5_odds_1 1 rfl ?_
  refine v_callRi C l_X5_143 (m_X5_isCase b n_fa n_tr n_mi (nI nj) (nI nc) (nI wl) n_at n_rm n_rj n_rc n_nw n_ov n_rl (nI nr) c) (by decide) dX5_odds_2 [0] rfl 0 rfl rfl rfl (rest := []) rfl (Nat.le_of_ble_eq_true rfl) (by decide) (fun r1 h2 => ?_)
  subst h2
  by_cases c3 : ¬ c < 0 ∧ ¬ (nI nc) ≤ c
  · refine v_eqi 1 (bI_t c3) ?_
    obtain ⟨cN, hcN, rfl⟩ := ix_of' (by omega) c3
    have zcN : (nI cN).toNatClampNeg = cN := nI_clamp (by omega)
    refine v_if_eq C 17 dX5_odds_5 (by decide) (fun h => absurd h (by decide)) (fun _ => ?_)
    refine v_iload_n C dX5_odds_8 2 rfl ?_
    refine v_iconst C 0 dX5_odds_9 (by decide) ?_
    refine v_iconst C 1 dX5_odds_10 (by decide) ?_
    refine v_callSi C l_X5_74 (m_X5_within x 0 1) (by decide) dX5_odds_11 [] rfl rfl (rest := []) rfl (Nat.le_of_ble_eq_true rfl) (by decide) (fun r4 h5 => ?_)
    subst h5
    by_cases c6 : wib x (0 : Int32) (1 : Int32) = true
    · refine v_eqi 1 (bI_t c6) ?_
      rw [wib_1] at c6
      refine v_if_ne C 21 dX5_odds_14 (by decide) (fun _ => ?_) (fun h => absurd h (by decide))
      refine v_aload_n C dX5_odds_21 0 rfl ?_
      refine v_callRi C l_X5_220 (m_X5_struck b nj st n_fa n_tr n_mi (nI nc) (nI wl) n_at n_rm n_rj n_rc n_nw n_ov n_rl (nI nr) n_iS (by assumption) (by assumption) (by assumption)) (by decide) dX5_odds_22 [0, 4] rfl 0 rfl rfl rfl (rest := []) rfl (Nat.le_of_ble_eq_true rfl) (by decide) (fun r7 h8 => ?_)
      subst h8
      refine v_istore_n C [(3, .int (nI st)), (0, .ref (b 0)), (1, .int (nI cN)), (2, .int x)] dX5_odds_25 (by decide) rfl ?_
      refine v_iconst C 0 dX5_odds_26 (by decide) ?_
      refine v_istore C [(4, .int 0), (3, .int (nI st)), (0, .ref (b 0)), (1, .int (nI cN)), (2, .int x)] dX5_odds_27 (by decide) rfl ?_
      refine v_iconst C 0 dX5_odds_29 (by decide) ?_
      refine v_istore C [(5, .int 0), (4, .int 0), (3, .int (nI st)), (0, .ref (b 0)), (1, .int (nI cN)), (2, .int x)] dX5_odds_30 (by decide) rfl ?_
      have lp : ∀ (n_10 : Nat) (y : Nat) (u : Nat) (iS1 : Nat → Int32) (nw1 : Int32) (ov1 : Int32) (ho1 : Nat → Int32) (vd1 : Nat → Int32) (iE1 : Nat → Int32) (rl1 : Int32) (rw1 : Nat → Int32), 2 ^ nj - y < n_10 → (y ≤ 2 ^ nj) → (ct ((fun cx yx => decide ((sitS nj n_kd n_ag yx wl dn n_fr n_we n_mi s0 (fun p => p) nc).1 cx = 1)) cN) y = u) → (∀ v, tbF v iS1 nj = tbF v n_iS nj) → V zp l ze (rmOf 6 133) zs zm [.ref (b 0), .int (nI cN), .int x].toArray zb zt zc D (IM zA zs) (QMl zb [.ref (b 0), .int (nI cN), .int x].toArray zs D cI cB cS [oN b n_fa n_tr n_mi (nI nj) (nI nc) (nI wl) n_at n_rm n_rj n_rc n_nw n_ov n_rl (nI nr), ia (b 9) cI 5 n_kd, ia (b 10) cI 5 n_ag, ia (b 11) cB 5 n_hS, ia (b 12) cB 5 n_iS, ia (b 26) cB 5 n_iE, ia (b 13) cI 5 n_de, ia (b 14) cI 5 n_fr, ia (b 24) cI 5 n_ho, ia (b 25) cI 6 n_vd, ia (b 28) cI 5 n_rw, ia (b 15) cI 5 n_we] zz (fun r w => ∃ (nw' : Int32) (ov' : Int32) (ho' : Nat → Int32) (vd' : Nat → Int32) (iE' : Nat → Int32) (rl' : Int32) (rw' : Nat → Int32), r = odF nj nc (fun cx yx => decide ((sitS nj n_kd n_ag yx wl dn n_fr n_we n_mi s0 (fun p => p) nc).1 cx = 1)) (nI cN) x ∧ w = [oN b n_fa n_tr n_mi (nI nj) (nI nc) (nI wl) n_at n_rm n_rj n_rc nw' ov' rl' (nI nr), ia (b 9) cI 5 n_kd, ia (b 10) cI 5 n_ag, ia (b 11) cB 5 n_hS, ia (b 12) cB 5 n_iS, ia (b 26) cB 5 iE', ia (b 13) cI 5 n_de, ia (b 14) cI 5 n_fr, ia (b 24) cI 5 ho', ia (b 25) cI 6 vd', ia (b 28) cI 5 rw', ia (b 15) cI 5 n_we])) 0 0 6 [oN b n_fa n_tr n_mi (nI nj) (nI nc) (nI wl) n_at n_rm n_rj n_rc nw1 ov1 rl1 (nI nr), ia (b 9) cI 5 n_kd, ia (b 10) cI 5 n_ag, ia (b 11) cB 5 n_hS, ia (b 12) cB 5 iS1, ia (b 26) cB 5 iE1, ia (b 13) cI 5 n_de, ia (b 14) cI 5 n_fr, ia (b 24) cI 5 ho1, ia (b 25) cI 6 vd1, ia (b 28) cI 5 rw1, ia (b 15) cI 5 n_we] [(5, .int (nI y)), (4, .int (nI u)), (3, .int (nI st)), (0, .ref (b 0)), (1, .int (nI cN)), (2, .int x)] 32 [] := by
        intro n_10
        induction n_10 with
        | zero => intro y u iS1 nw1 ov1 ho1 vd1 iE1 rl1 rw1 b9; exact absurd b9 (by omega)
        | succ n_10 ihn_10 =>
          intro y u iS1 nw1 ov1 ho1 vd1 iE1 rl1 rw1 b9 hy hu hti
          refine v_iload C dX5_odds_32 0 rfl ?_
          refine v_iconst C 1 dX5_odds_34 (by decide) ?_
          refine v_aload_n C dX5_odds_35 3 rfl ?_
          refine v_get C f_X5_78 dX5_odds_36 0 rfl rfl ?_
          refine v_ishl C dX5_odds_39 ?_
          refine v_eqi (nI (2 ^ nj)) (raw_sh nj (by omega)) ?_
          refine v_icmp_ge C 80 dX5_odds_40 (by decide) (fun c11 => ?_) (fun c11 => ?_)
          · have nc11 : (2 ^ nj) ≤ y := nI_leD c11 (by omega)
            have hye : y = 2 ^ nj := by omega
            rw [hye] at hu
            have hule := ct_le ((fun cx yx => decide ((sitS nj n_kd n_ag yx wl dn n_fr n_we n_mi s0 (fun p => p) nc).1 cx = 1)) cN) (2 ^ nj)
            refine v_aload_n C dX5_odds_80 3 rfl ?_
            refine v_iload_n C dX5_odds_81 2 rfl ?_
            refine v_callMv C l_X5_223 (m_X5_layStruck b nj st n_fa n_tr n_mi (nI nc) (nI wl) n_at n_rm n_rj n_rc nw1 ov1 rl1 (nI nr) iS1 (by assumption) (by omega)) (by decide) dX5_odds_82 [0, 4] [1, 2, 3, 5, 6, 7, 8, 9, 10, 11] (wr := [ia (b 9) cI 5 n_kd, ia (b 10) cI 5 n_ag, ia (b 11) cB 5 n_hS, ia (b 26) cB 5 iE1, ia (b 13) cI 5 n_de, ia (b 14) cI 5 n_fr, ia (b 24) cI 5 ho1, ia (b 25) cI 6 vd1, ia (b 28) cI 5 rw1, ia (b 15) cI 5 n_we]) (by decide) rfl rfl (by decide) (by decide) 0 rfl rfl rfl (rest := []) rfl (Nat.le_of_ble_eq_true rfl) (by decide) (fun w12 h13 => ?_)
            subst h13
            refine v_ws0 [ia (b 9) cI 5 n_kd, ia (b 10) cI 5 n_ag, ia (b 11) cB 5 n_hS, ia (b 26) cB 5 iE1, ia (b 13) cI 5 n_de, ia (b 14) cI 5 n_fr, ia (b 24) cI 5 ho1, ia (b 25) cI 6 vd1, ia (b 28) cI 5 rw1, ia (b 15) cI 5 n_we, oN b n_fa n_tr n_mi (nI nj) (nI nc) (nI wl) n_at n_rm n_rj n_rc nw1 ov1 rl1 (nI nr), ia (b 12) cB 5 (tbF (bA st) iS1 nj)] rfl ?_
            refine v_ws0 [ia (b 9) cI 5 n_kd, ia (b 10) cI 5 n_ag, ia (b 11) cB 5 n_hS, ia (b 26) cB 5 iE1, ia (b 13) cI 5 n_de, ia (b 14) cI 5 n_fr, ia (b 24) cI 5 ho1, ia (b 25) cI 6 vd1, ia (b 28) cI 5 rw1, ia (b 15) cI 5 n_we, oN b n_fa n_tr n_mi (nI nj) (nI nc) (nI wl) n_at n_rm n_rj n_rc nw1 ov1 rl1 (nI nr), ia (b 12) cB 5 n_iS] (by rw [hti, tbF_id hiS]) ?_
            refine v_iload C dX5_odds_85 1 rfl ?_
            refine v_i2l C dX5_odds_87 ?_
            refine v_lconst C 1 dX5_odds_88 (by decide) ?_
            refine v_aload_n C dX5_odds_89 3 rfl ?_
            refine v_get C f_X5_78 dX5_odds_90 10 rfl rfl ?_
            refine v_lshl C dX5_odds_93 ?_
            refine v_st0 [.long (lN (2 ^ nj)), .long (lN u)] (by rw [raw_lsh nj (by omega), nI_l (by omega)]) ?_
            refine v_iload_n C dX5_odds_94 5 rfl ?_
            refine v_callSl C l_X5_226 (m_X5_inLeastTerms u nj x hnj (by rw [← hu]; exact ct_le _ _) hp5) (by decide) dX5_odds_95 [] rfl rfl (rest := []) rfl (Nat.le_of_ble_eq_true rfl) (by decide) (fun r15 h16 => ?_)
            subst h16
            refine v_perm (ws' := [oN b n_fa n_tr n_mi (nI nj) (nI nc) (nI wl) n_at n_rm n_rj n_rc nw1 ov1 rl1 (nI nr), ia (b 9) cI 5 n_kd, ia (b 10) cI 5 n_ag, ia (b 11) cB 5 n_hS, ia (b 12) cB 5 n_iS, ia (b 26) cB 5 iE1, ia (b 13) cI 5 n_de, ia (b 14) cI 5 n_fr, ia (b 24) cI 5 ho1, ia (b 25) cI 6 vd1, ia (b 28) cI 5 rw1, ia (b 15) cI 5 n_we]) [10, 0, 1, 2, 11, 3, 4, 5, 6, 7, 8, 9] (by decide) rfl ?_
            exact v_retl C hA dX5_odds_98 (⟨_, _, _, _, _, _, _, (od_eq c3 c6 zcN hu).symm, rfl⟩)
          · have nc11 : y < (2 ^ nj) := nI_ltD c11 (by omega)
            refine v_aload_n C dX5_odds_43 3 rfl ?_
            refine v_iload C dX5_odds_44 0 rfl ?_
            refine v_callMv C l_X5_223 (m_X5_layStruck b nj y n_fa n_tr n_mi (nI nc) (nI wl) n_at n_rm n_rj n_rc nw1 ov1 rl1 (nI nr) iS1 (by assumption) (by omega)) (by decide) dX5_odds_46 [0, 4] [1, 2, 3, 5, 6, 7, 8, 9, 10, 11] (wr := [ia (b 9) cI 5 n_kd, ia (b 10) cI 5 n_ag, ia (b 11) cB 5 n_hS, ia (b 26) cB 5 iE1, ia (b 13) cI 5 n_de, ia (b 14) cI 5 n_fr, ia (b 24) cI 5 ho1, ia (b 25) cI 6 vd1, ia (b 28) cI 5 rw1, ia (b 15) cI 5 n_we]) (by decide) rfl rfl (by decide) (by decide) 0 rfl rfl rfl (rest := []) rfl (Nat.le_of_ble_eq_true rfl) (by decide) (fun w17 h18 => ?_)
            subst h18
            refine v_ws0 [ia (b 9) cI 5 n_kd, ia (b 10) cI 5 n_ag, ia (b 11) cB 5 n_hS, ia (b 26) cB 5 iE1, ia (b 13) cI 5 n_de, ia (b 14) cI 5 n_fr, ia (b 24) cI 5 ho1, ia (b 25) cI 6 vd1, ia (b 28) cI 5 rw1, ia (b 15) cI 5 n_we, oN b n_fa n_tr n_mi (nI nj) (nI nc) (nI wl) n_at n_rm n_rj n_rc nw1 ov1 rl1 (nI nr), ia (b 12) cB 5 (tbF (bA y) iS1 nj)] rfl ?_
            refine v_aload_n C dX5_odds_49 3 rfl ?_
            refine v_callMi C l_X5_211 (m_X5_byNumbers b wl nj nc s0 y dn n_fa n_tr n_mi n_at n_rm n_rj n_rc nw1 ov1 rl1 (nI nr) n_kd n_ag n_hS (tbF (bA y) iS1 nj) iE1 n_de n_fr ho1 vd1 rw1 n_we (by assumption) (by assumption) (by assumption) (by assumption) (fun j hj => tbF_in hj) (by assumption)) (by decide) dX5_odds_50 [10, 0, 1, 2, 11, 3, 4, 5, 6, 7, 8, 9] [] (wr := []) (by decide) rfl rfl (by decide) (by decide) 10 rfl rfl rfl (rest := []) rfl (Nat.le_of_ble_eq_true rfl) (by decide) (fun r22 w20 h21 => ?_)
            obtain ⟨nw_23, ov_24, ho_25, vd_26, iE_27, rl_28, rw_29, rfl, rfl, hb30⟩ := h21
            refine v_ws0 [oN b n_fa n_tr n_mi (nI nj) (nI nc) (nI wl) n_at n_rm n_rj n_rc nw_23 ov_24 rl_28 (nI nr), ia (b 9) cI 5 n_kd, ia (b 10) cI 5 n_ag, ia (b 11) cB 5 n_hS, ia (b 12) cB 5 (tbF (bA y) iS1 nj), ia (b 26) cB 5 iE_27, ia (b 13) cI 5 n_de, ia (b 14) cI 5 n_fr, ia (b 24) cI 5 ho_25, ia (b 25) cI 6 vd_26, ia (b 28) cI 5 rw_29, ia (b 15) cI 5 n_we] rfl ?_
            refine v_pop C dX5_odds_53 rfl ?_
            refine v_iload C dX5_odds_54 1 rfl ?_
            refine v_aload_n C dX5_odds_56 3 rfl ?_
            refine v_get C f_X5_47 dX5_odds_57 0 rfl rfl ?_
            refine v_iload_n C dX5_odds_60 4 rfl ?_
            refine v_ialdN C dX5_odds_61 8 rfl cN rfl (by omega) (by decide) ?_
            refine v_eqi ((sitS nj n_kd n_ag y wl dn n_fr n_we n_mi s0 (fun p => p) nc).1 cN) (hb30 cN hcN) ?_
            refine v_iconst C 1 dX5_odds_62 (by decide) ?_
            refine v_icmp_ne C 70 dX5_odds_63 (by decide) (fun c31 => ?_) (fun c31 => ?_)
            · refine v_iconst C 0 dX5_odds_70 (by decide) ?_
              refine v_iadd C dX5_odds_71 ?_
              refine v_eqi (nI u) (Int32.add_zero _) ?_
              refine v_istore C [(4, .int (nI u)), (5, .int (nI y)), (3, .int (nI st)), (0, .ref (b 0)), (1, .int (nI cN)), (2, .int x)] dX5_odds_72 (by decide) rfl ?_
              refine v_iinc C (nI (y + 1)) [(5, .int (nI (y + 1))), (4, .int (nI u)), (3, .int (nI st)), (0, .ref (b 0)), (1, .int (nI cN)), (2, .int x)] 1 dX5_odds_74 rfl (nI_inc _) (by decide) rfl ?_
              refine v_goto C 32 dX5_odds_77 (by decide) ?_
              exact ihn_10 (y + 1) u (tbF (bA y) iS1 nj) nw_23 ov_24 ho_25 vd_26 iE_27 rl_28 rw_29 (by omega) (by omega) (by rw [ct, hu]; simp [c31]) (fun v => by rw [tbF_tbF v, hti])
            · refine v_iconst C 1 dX5_odds_66 (by decide) ?_
              refine v_goto C 71 dX5_odds_67 (by decide) ?_
              refine v_iadd C dX5_odds_71 ?_
              refine v_eqi (nI (u + 1)) (nI_1 u) ?_
              refine v_istore C [(4, .int (nI (u + 1))), (5, .int (nI y)), (3, .int (nI st)), (0, .ref (b 0)), (1, .int (nI cN)), (2, .int x)] dX5_odds_72 (by decide) rfl ?_
              refine v_iinc C (nI (y + 1)) [(5, .int (nI (y + 1))), (4, .int (nI (u + 1))), (3, .int (nI st)), (0, .ref (b 0)), (1, .int (nI cN)), (2, .int x)] 1 dX5_odds_74 rfl (nI_inc _) (by decide) rfl ?_
              refine v_goto C 32 dX5_odds_77 (by decide) ?_
              exact ihn_10 (y + 1) (u + 1) (tbF (bA y) iS1 nj) nw_23 ov_24 ho_25 vd_26 iE_27 rl_28 rw_29 (by omega) (by omega) (by rw [ct, hu]; simp [c31]) (fun v => by rw [tbF_tbF v, hti])
      exact lp (2 ^ nj - 0 + 1) 0 0 n_iS n_nw n_ov n_ho n_vd n_iE n_rl n_rw (by omega) (by omega) rfl (fun v => rfl)
    · refine v_eqi 0 (bI_f c6) ?_
      rw [wib_1] at c6
      refine v_if_ne C 21 dX5_odds_14 (by decide) (fun h => absurd h (by decide)) (fun _ => ?_)
      refine v_ldc2 C k_X5_72 dX5_odds_17 ?_
      exact v_retl C hA dX5_odds_20 (⟨_, _, _, _, _, _, _, by first | (simp only [odF, bI, zcN, c3, c6, not_false_eq_true, not_true_eq_false, and_self, and_true, true_and, and_false, false_and, ↓reduceIte]; done) | (simp only [odF, bI, zcN, c3, c6, not_false_eq_true, not_true_eq_false, and_self, and_true, true_and, and_false, false_and, ↓reduceIte]; rfl) | (simp [odF, bI, zcN, c3, c6]; done) | rfl, by first | (simp only [odF, bI, zcN, c3, c6, not_false_eq_true, not_true_eq_false, and_self, and_true, true_and, and_false, false_and, ↓reduceIte]; done) | (simp only [odF, bI, zcN, c3, c6, not_false_eq_true, not_true_eq_false, and_self, and_true, true_and, and_false, false_and, ↓reduceIte]; rfl) | (simp [odF, bI, zcN, c3, c6]; done) | rfl⟩)
  · refine v_eqi 0 (bI_f c3) ?_
    refine v_if_eq C 17 dX5_odds_5 (by decide) (fun _ => ?_) (fun h => absurd h (by decide))
    refine v_ldc2 C k_X5_72 dX5_odds_17 ?_
    exact v_retl C hA dX5_odds_20 (⟨_, _, _, _, _, _, _, by first | (simp only [odF, bI, c3, not_false_eq_true, not_true_eq_false, and_self, and_true, true_and, and_false, false_and, ↓reduceIte]; done) | (simp only [odF, bI, c3, not_false_eq_true, not_true_eq_false, and_self, and_true, true_and, and_false, false_and, ↓reduceIte]; rfl) | (simp [odF, bI, c3]; done) | rfl, by first | (simp only [odF, bI, c3, not_false_eq_true, not_true_eq_false, and_self, and_true, true_and, and_false, false_and, ↓reduceIte]; done) | (simp only [odF, bI, c3, not_false_eq_true, not_true_eq_false, and_self, and_true, true_and, and_false, false_and, ↓reduceIte]; rfl) | (simp [odF, bI, c3]; done) | rfl⟩)
set_option maxHeartbeats 4000000 in
set_option maxRecDepth 100000 in
theorem m_X5_findOrder1 {l : Launch} {D : va_G} {cI cB cS : ClassId} (b : Nat → Nat) (wl nj nc s0 st : Nat) (dn : Nat → Nat) (n_fa : Int32) (n_tr : Int32) (n_mi : Int32) (n_at : Int32) (n_rm : Int32) (n_rj : Int32) (n_rc : Int32) (n_nw : Int32) (n_ov : Int32) (n_rl : Int32) (n_rd : Int32) (n_kd : Nat → Int32) (n_ag : Nat → Int32) (n_hS : Nat → Int32) (n_iS : Nat → Int32) (n_iE : Nat → Int32) (n_de : Nat → Int32) (n_fr : Nat → Int32) (n_ho : Nat → Int32) (n_vd : Nat → Int32) (n_rw : Nat → Int32) (n_we : Nat → Int32) (n_fo : Nat → Int32) (hwl : wl < 64) (hnc : nc ≤ 5) (hnj : nj ≤ 5) (hhS : ∀ j, j < nj → n_hS j = bA s0 j) (hiS : ∀ j, j < nj → n_iS j = bA st j) (hde : ∀ c, c < nc → n_de c = nI (dn c) ∧ dn c < 6) (hnc1 : 1 ≤ nc) (hwe : ∀ c, c < nc → 0 ≤ (n_we c).toInt ∧ (n_we c).toInt ≤ 9) (hv : ¬ 1 * (fun kx => (sitS nj n_kd n_ag st wl dn n_fr n_we n_mi s0 (prm nc kx) nc).2.2.2.2.1) 0 ≤ -1000) : Mi l yX5_findOrder cX5_findOrder 7 (some .int) 5 113 D cI cB cS [.ref (b 0), .int 1] [oN b n_fa n_tr n_mi (nI nj) (nI nc) (nI wl) n_at n_rm n_rj n_rc n_nw n_ov n_rl n_rd, ia (b 9) cI 5 n_kd, ia (b 10) cI 5 n_ag, ia (b 11) cB 5 n_hS, ia (b 12) cB 5 n_iS, ia (b 26) cB 5 n_iE, ia (b 13) cI 5 n_de, ia (b 14) cI 5 n_fr, ia (b 24) cI 5 n_ho, ia (b 25) cI 6 n_vd, ia (b 28) cI 5 n_rw, ia (b 15) cI 5 n_we, ia (b 29) cI 5 n_fo] (fun r w => ∃ (nw' : Int32) (ov' : Int32) (ho' : Nat → Int32) (vd' : Nat → Int32) (iE' : Nat → Int32) (rl' : Int32) (rw' : Nat → Int32) (fo' : Nat → Int32), r = 1 * (fhS (fun kx => (sitS nj n_kd n_ag st wl dn n_fr n_we n_mi s0 (prm nc kx) nc).2.2.2.2.1) 1 (fct nc)).1 ∧ w = [oN b n_fa n_tr n_mi (nI nj) (nI nc) (nI wl) n_at n_rm n_rj n_rc nw' ov' rl' n_rd, ia (b 9) cI 5 n_kd, ia (b 10) cI 5 n_ag, ia (b 11) cB 5 n_hS, ia (b 12) cB 5 n_iS, ia (b 26) cB 5 iE', ia (b 13) cI 5 n_de, ia (b 14) cI 5 n_fr, ia (b 24) cI 5 ho', ia (b 25) cI 6 vd', ia (b 28) cI 5 rw', ia (b 15) cI 5 n_we, ia (b 29) cI 5 fo'] ∧ ∀ p, p < nc → fo' p = nI (prm nc (fhS (fun kx => (sitS nj n_kd n_ag st wl dn n_fr n_we n_mi s0 (prm nc kx) nc).2.2.2.2.1) 1 (fct nc)).2 p)) := by
  refine Mi.of (by decide) (Nat.le_of_ble_eq_true rfl) ?_
  intro zp ze zs zm zb zt zc zz zA hA C hnm
  refine v_lv0 [(0, .ref (b 0)), (1, .int 1)] rfl ?_
  refine v_bipush C (-9) dX5_findOrder_0 (by decide) ?_
  refine v_istore_n C [(2, .int (-9)), (0, .ref (b 0)), (1, .int 1)] dX5_findOrder_2 (by decide) rfl ?_
  refine v_iconst C 1 dX5_findOrder_3 (by decide) ?_
  refine v_istore_n C [(3, .int 1), (2, .int (-9)), (0, .ref (b 0)), (1, .int 1)] dX5_findOrder_4 (by decide) rfl ?_
  refine v_aload_n C dX5_findOrder_5 2 rfl ?_
  refine v_callMv C l_X5_173 (m_X5_layNumbers b nc n_fa n_tr n_mi (nI nj) (nI wl) n_at n_rm n_rj n_rc n_nw n_ov n_rl n_rd n_rw (by assumption)) (by decide) dX5_findOrder_6 [0, 10] [1, 2, 3, 4, 5, 6, 7, 8, 9, 11, 12] (wr := [ia (b 9) cI 5 n_kd, ia (b 10) cI 5 n_ag, ia (b 11) cB 5 n_hS, ia (b 12) cB 5 n_iS, ia (b 26) cB 5 n_iE, ia (b 13) cI 5 n_de, ia (b 14) cI 5 n_fr, ia (b 24) cI 5 n_ho, ia (b 25) cI 6 n_vd, ia (b 15) cI 5 n_we, ia (b 29) cI 5 n_fo]) (by decide) rfl rfl (by decide) (by decide) 0 rfl rfl rfl (rest := []) rfl (Nat.le_of_ble_eq_true rfl) (by decide) (fun w1 h2 => ?_)
  subst h2
  refine v_ws0 [ia (b 9) cI 5 n_kd, ia (b 10) cI 5 n_ag, ia (b 11) cB 5 n_hS, ia (b 12) cB 5 n_iS, ia (b 26) cB 5 n_iE, ia (b 13) cI 5 n_de, ia (b 14) cI 5 n_fr, ia (b 24) cI 5 n_ho, ia (b 25) cI 6 n_vd, ia (b 15) cI 5 n_we, ia (b 29) cI 5 n_fo, oN b n_fa n_tr n_mi (nI nj) (nI nc) (nI wl) n_at n_rm n_rj n_rc n_nw n_ov (nI nc) n_rd, ia (b 28) cI 5 (tbF nI n_rw nc)] rfl ?_
  refine v_perm (ws' := [oN b n_fa n_tr n_mi (nI nj) (nI nc) (nI wl) n_at n_rm n_rj n_rc n_nw n_ov (nI nc) n_rd, ia (b 9) cI 5 n_kd, ia (b 10) cI 5 n_ag, ia (b 11) cB 5 n_hS, ia (b 12) cB 5 n_iS, ia (b 26) cB 5 n_iE, ia (b 13) cI 5 n_de, ia (b 14) cI 5 n_fr, ia (b 24) cI 5 n_ho, ia (b 25) cI 6 n_vd, ia (b 28) cI 5 (tbF nI n_rw nc), ia (b 15) cI 5 n_we, ia (b 29) cI 5 n_fo]) [11, 0, 1, 2, 3, 4, 5, 6, 7, 8, 12, 9, 10] (by decide) rfl ?_
  have hvb := fun (kx : Nat) (hkx : kx < fct nc) => se_bd (nj := nj) (tk := n_kd) (ag := n_ag) (st := st) (lw := wl) (dn := dn) (ta := n_fr) (si := n_mi) (un := s0) (o := prm nc kx) (L := nc) hwe (fun p hp => prm_lt nc (by omega) kx hkx p hp) hnc nc (Nat.le_refl nc)
  have lp : ∀ (n_5 : Nat) (k : Nat) (be : Int32) (hi : Int32) (bk : Nat) (nw1 : Int32) (ov1 : Int32) (ho1 : Nat → Int32) (vd1 : Nat → Int32) (iE1 : Nat → Int32) (rw1 : Nat → Int32) (fo1 : Nat → Int32), fct nc - k < n_5 → (k < fct nc) → (fhS (fun kx => (sitS nj n_kd n_ag st wl dn n_fr n_we n_mi s0 (prm nc kx) nc).2.2.2.2.1) 1 k = (hi, bk)) → (∀ p, p < nc → rw1 p = nI (prm nc k p)) → (foI (fun kx => (sitS nj n_kd n_ag st wl dn n_fr n_we n_mi s0 (prm nc kx) nc).2.2.2.2.1) 1 nc k be hi bk fo1) → V zp l ze (rmOf 5 113) zs zm [.ref (b 0), .int 1].toArray zb zt zc D (IM zA zs) (QMi zb [.ref (b 0), .int 1].toArray zs D cI cB cS [oN b n_fa n_tr n_mi (nI nj) (nI nc) (nI wl) n_at n_rm n_rj n_rc n_nw n_ov n_rl n_rd, ia (b 9) cI 5 n_kd, ia (b 10) cI 5 n_ag, ia (b 11) cB 5 n_hS, ia (b 12) cB 5 n_iS, ia (b 26) cB 5 n_iE, ia (b 13) cI 5 n_de, ia (b 14) cI 5 n_fr, ia (b 24) cI 5 n_ho, ia (b 25) cI 6 n_vd, ia (b 28) cI 5 n_rw, ia (b 15) cI 5 n_we, ia (b 29) cI 5 n_fo] zz (fun r w => ∃ (nw' : Int32) (ov' : Int32) (ho' : Nat → Int32) (vd' : Nat → Int32) (iE' : Nat → Int32) (rl' : Int32) (rw' : Nat → Int32) (fo' : Nat → Int32), r = 1 * (fhS (fun kx => (sitS nj n_kd n_ag st wl dn n_fr n_we n_mi s0 (prm nc kx) nc).2.2.2.2.1) 1 (fct nc)).1 ∧ w = [oN b n_fa n_tr n_mi (nI nj) (nI nc) (nI wl) n_at n_rm n_rj n_rc nw' ov' rl' n_rd, ia (b 9) cI 5 n_kd, ia (b 10) cI 5 n_ag, ia (b 11) cB 5 n_hS, ia (b 12) cB 5 n_iS, ia (b 26) cB 5 iE', ia (b 13) cI 5 n_de, ia (b 14) cI 5 n_fr, ia (b 24) cI 5 ho', ia (b 25) cI 6 vd', ia (b 28) cI 5 rw', ia (b 15) cI 5 n_we, ia (b 29) cI 5 fo'] ∧ ∀ p, p < nc → fo' p = nI (prm nc (fhS (fun kx => (sitS nj n_kd n_ag st wl dn n_fr n_we n_mi s0 (prm nc kx) nc).2.2.2.2.1) 1 (fct nc)).2 p))) 0 0 7 [oN b n_fa n_tr n_mi (nI nj) (nI nc) (nI wl) n_at n_rm n_rj n_rc nw1 ov1 (nI nc) n_rd, ia (b 9) cI 5 n_kd, ia (b 10) cI 5 n_ag, ia (b 11) cB 5 n_hS, ia (b 12) cB 5 n_iS, ia (b 26) cB 5 iE1, ia (b 13) cI 5 n_de, ia (b 14) cI 5 n_fr, ia (b 24) cI 5 ho1, ia (b 25) cI 6 vd1, ia (b 28) cI 5 rw1, ia (b 15) cI 5 n_we, ia (b 29) cI 5 fo1] [(3, .int 1), (2, .int be), (0, .ref (b 0)), (1, .int 1)] 9 [] := by
    intro n_5
    induction n_5 with
    | zero => intro k be hi bk nw1 ov1 ho1 vd1 iE1 rw1 fo1 b4; exact absurd b4 (by omega)
    | succ n_5 ihn_5 =>
      intro k be hi bk nw1 ov1 ho1 vd1 iE1 rw1 fo1 b4 hk hfh hod hbe
      refine v_iload_n C dX5_findOrder_9 0 rfl ?_
      refine v_if_eq C 108 dX5_findOrder_10 (by decide) (fun h => absurd h (by decide)) (fun _ => ?_)
      refine v_aload_n C dX5_findOrder_13 2 rfl ?_
      refine v_callMv C l_X5_176 (m_X5_goRow b wl nj nc s0 st nc (prm nc k) dn n_we n_fa n_tr n_mi n_at n_rm n_rj n_rc nw1 ov1 n_rd n_kd n_ag n_hS n_iS iE1 n_de n_fr ho1 vd1 rw1 (by assumption) (by assumption) (by assumption) (by assumption) (by assumption) (by assumption) hnc (fun p hp => ⟨hod p hp, prm_lt nc (by omega) k hk p hp⟩)) (by decide) dX5_findOrder_14 [0, 1, 2, 3, 4, 5, 6, 7, 8, 9, 10] [11, 12] (wr := [ia (b 15) cI 5 n_we, ia (b 29) cI 5 fo1]) (by decide) rfl rfl (by decide) (by decide) 0 rfl rfl rfl (rest := []) rfl (Nat.le_of_ble_eq_true rfl) (by decide) (fun w6 h7 => ?_)
      obtain ⟨nw_9, ov_10, ho_11, vd_12, iE_13, rfl, hs14⟩ := h7
      refine v_ws0 [ia (b 15) cI 5 n_we, ia (b 29) cI 5 fo1, oN b n_fa n_tr n_mi (nI nj) (nI nc) (nI wl) n_at n_rm n_rj n_rc nw_9 ov_10 (nI nc) n_rd, ia (b 9) cI 5 n_kd, ia (b 10) cI 5 n_ag, ia (b 11) cB 5 n_hS, ia (b 12) cB 5 n_iS, ia (b 26) cB 5 iE_13, ia (b 13) cI 5 n_de, ia (b 14) cI 5 n_fr, ia (b 24) cI 5 ho_11, ia (b 25) cI 6 vd_12, ia (b 28) cI 5 rw1] rfl ?_
      refine v_aload_n C dX5_findOrder_17 2 rfl ?_
      refine v_callRi C l_X5_179 (m_X5_sentenced b nc n_fa n_tr n_mi (nI nj) (nI wl) n_at n_rm n_rj n_rc nw_9 ov_10 (nI nc) n_rd ho_11 n_we (by assumption)) (by decide) dX5_findOrder_18 [2, 10, 0] rfl 2 rfl rfl rfl (rest := []) rfl (Nat.le_of_ble_eq_true rfl) (by decide) (fun r15 h16 => ?_)
      subst h16
      refine v_eqi ((sitS nj n_kd n_ag st wl dn n_fr n_we n_mi s0 (prm nc k) nc).2.2.2.2.1) (by rw [seS_cong hs14.2.2.1]; exact (sit_se (fun p hp => prm_lt nc (by omega) k hk p hp) (fun p q hp hq e => prm_inj nc (by omega) k hk p hp q hq e) nc (Nat.le_refl nc)).symm) ?_
      refine v_istore C [(4, .int ((sitS nj n_kd n_ag st wl dn n_fr n_we n_mi s0 (prm nc k) nc).2.2.2.2.1)), (3, .int 1), (2, .int be), (0, .ref (b 0)), (1, .int 1)] dX5_findOrder_21 (by decide) rfl ?_
      refine v_iload_n C dX5_findOrder_23 4 rfl ?_
      refine v_if_eq C 41 dX5_findOrder_24 (by decide) (fun h => absurd h (by decide)) (fun _ => ?_)
      refine v_iload C dX5_findOrder_27 0 rfl ?_
      refine v_iload_n C dX5_findOrder_29 2 rfl ?_
      refine v_icmp_le C 37 dX5_findOrder_30 (by decide) (fun c17 => ?_) (fun c17 => ?_)
      · refine v_iconst C 0 dX5_findOrder_37 (by decide) ?_
        refine v_goto C 52 dX5_findOrder_38 (by decide) ?_
        refine v_istore C [(5, .int 0), (4, .int ((sitS nj n_kd n_ag st wl dn n_fr n_we n_mi s0 (prm nc k) nc).2.2.2.2.1)), (3, .int 1), (2, .int be), (0, .ref (b 0)), (1, .int 1)] dX5_findOrder_52 (by decide) rfl ?_
        refine v_iload_n C dX5_findOrder_54 3 rfl ?_
        refine v_bipush C (-9) dX5_findOrder_55 (by decide) ?_
        refine v_icmp_eq C 65 dX5_findOrder_57 (by decide) (fun c18 => ?_) (fun c18 => ?_)
        · have hk0 : k = 0 := fo_zero hbe (fun q => hvb bk q) c18
          have hF : fhS (fun kx => (sitS nj n_kd n_ag st wl dn n_fr n_we n_mi s0 (prm nc kx) nc).2.2.2.2.1) 1 (k + 1) = (1 * (fun kx => (sitS nj n_kd n_ag st wl dn n_fr n_we n_mi s0 (prm nc kx) nc).2.2.2.2.1) k, k) := fo_first hk0 hv
          refine v_iload C dX5_findOrder_65 1 rfl ?_
          refine v_istore_n C [(2, .int ((sitS nj n_kd n_ag st wl dn n_fr n_we n_mi s0 (prm nc k) nc).2.2.2.2.1)), (5, .int 0), (4, .int ((sitS nj n_kd n_ag st wl dn n_fr n_we n_mi s0 (prm nc k) nc).2.2.2.2.1)), (3, .int 1), (0, .ref (b 0)), (1, .int 1)] dX5_findOrder_67 (by decide) rfl ?_
          refine v_iconst C 0 dX5_findOrder_68 (by decide) ?_
          refine v_istore C [(6, .int 0), (2, .int ((sitS nj n_kd n_ag st wl dn n_fr n_we n_mi s0 (prm nc k) nc).2.2.2.2.1)), (5, .int 0), (4, .int ((sitS nj n_kd n_ag st wl dn n_fr n_we n_mi s0 (prm nc k) nc).2.2.2.2.1)), (3, .int 1), (0, .ref (b 0)), (1, .int 1)] dX5_findOrder_69 (by decide) rfl ?_
          refine v_perm (ws' := [oN b n_fa n_tr n_mi (nI nj) (nI nc) (nI wl) n_at n_rm n_rj n_rc nw_9 ov_10 (nI nc) n_rd, ia (b 9) cI 5 n_kd, ia (b 10) cI 5 n_ag, ia (b 11) cB 5 n_hS, ia (b 12) cB 5 n_iS, ia (b 26) cB 5 iE_13, ia (b 13) cI 5 n_de, ia (b 14) cI 5 n_fr, ia (b 24) cI 5 ho_11, ia (b 25) cI 6 vd_12, ia (b 28) cI 5 rw1, ia (b 15) cI 5 n_we, ia (b 29) cI 5 fo1]) [2, 3, 4, 5, 6, 7, 8, 9, 10, 11, 12, 0, 1] (by decide) rfl ?_
          refine v_ws0 [oN b n_fa n_tr n_mi (nI nj) (nI nc) (nI wl) n_at n_rm n_rj n_rc nw_9 ov_10 (nI nc) n_rd, ia (b 9) cI 5 n_kd, ia (b 10) cI 5 n_ag, ia (b 11) cB 5 n_hS, ia (b 12) cB 5 n_iS, ia (b 26) cB 5 iE_13, ia (b 13) cI 5 n_de, ia (b 14) cI 5 n_fr, ia (b 24) cI 5 ho_11, ia (b 25) cI 6 vd_12, ia (b 28) cI 5 rw1, ia (b 15) cI 5 n_we, ia (b 29) cI 5 (tbF rw1 fo1 0)] (by rw [tbF_0]) ?_
          have lq : ∀ (n_20 : Nat) (i : Nat), nc - i < n_20 → (i ≤ nc) → V zp l ze (rmOf 5 113) zs zm [.ref (b 0), .int 1].toArray zb zt zc D (IM zA zs) (QMi zb [.ref (b 0), .int 1].toArray zs D cI cB cS [oN b n_fa n_tr n_mi (nI nj) (nI nc) (nI wl) n_at n_rm n_rj n_rc n_nw n_ov n_rl n_rd, ia (b 9) cI 5 n_kd, ia (b 10) cI 5 n_ag, ia (b 11) cB 5 n_hS, ia (b 12) cB 5 n_iS, ia (b 26) cB 5 n_iE, ia (b 13) cI 5 n_de, ia (b 14) cI 5 n_fr, ia (b 24) cI 5 n_ho, ia (b 25) cI 6 n_vd, ia (b 28) cI 5 n_rw, ia (b 15) cI 5 n_we, ia (b 29) cI 5 n_fo] zz (fun r w => ∃ (nw' : Int32) (ov' : Int32) (ho' : Nat → Int32) (vd' : Nat → Int32) (iE' : Nat → Int32) (rl' : Int32) (rw' : Nat → Int32) (fo' : Nat → Int32), r = 1 * (fhS (fun kx => (sitS nj n_kd n_ag st wl dn n_fr n_we n_mi s0 (prm nc kx) nc).2.2.2.2.1) 1 (fct nc)).1 ∧ w = [oN b n_fa n_tr n_mi (nI nj) (nI nc) (nI wl) n_at n_rm n_rj n_rc nw' ov' rl' n_rd, ia (b 9) cI 5 n_kd, ia (b 10) cI 5 n_ag, ia (b 11) cB 5 n_hS, ia (b 12) cB 5 n_iS, ia (b 26) cB 5 iE', ia (b 13) cI 5 n_de, ia (b 14) cI 5 n_fr, ia (b 24) cI 5 ho', ia (b 25) cI 6 vd', ia (b 28) cI 5 rw', ia (b 15) cI 5 n_we, ia (b 29) cI 5 fo'] ∧ ∀ p, p < nc → fo' p = nI (prm nc (fhS (fun kx => (sitS nj n_kd n_ag st wl dn n_fr n_we n_mi s0 (prm nc kx) nc).2.2.2.2.1) 1 (fct nc)).2 p))) 0 0 7 [oN b n_fa n_tr n_mi (nI nj) (nI nc) (nI wl) n_at n_rm n_rj n_rc nw_9 ov_10 (nI nc) n_rd, ia (b 9) cI 5 n_kd, ia (b 10) cI 5 n_ag, ia (b 11) cB 5 n_hS, ia (b 12) cB 5 n_iS, ia (b 26) cB 5 iE_13, ia (b 13) cI 5 n_de, ia (b 14) cI 5 n_fr, ia (b 24) cI 5 ho_11, ia (b 25) cI 6 vd_12, ia (b 28) cI 5 rw1, ia (b 15) cI 5 n_we, ia (b 29) cI 5 (tbF rw1 fo1 i)] [(6, .int (nI i)), (2, .int ((sitS nj n_kd n_ag st wl dn n_fr n_we n_mi s0 (prm nc k) nc).2.2.2.2.1)), (3, .int 1), (0, .ref (b 0)), (1, .int 1)] 71 [] := by
            intro n_20
            induction n_20 with
            | zero => intro i b19; exact absurd b19 (by omega)
            | succ n_20 ihn_20 =>
              intro i b19 hi2
              refine v_iload C dX5_findOrder_71 0 rfl ?_
              refine v_aload_n C dX5_findOrder_73 3 rfl ?_
              refine v_get C f_X5_81 dX5_findOrder_74 0 rfl rfl ?_
              refine v_icmp_ge C 100 dX5_findOrder_77 (by decide) (fun c21 => ?_) (fun c21 => ?_)
              · have nc21 : nc ≤ i := nI_leD c21 (by omega)
                have hie : i = nc := by omega
                refine v_ws0 [oN b n_fa n_tr n_mi (nI nj) (nI nc) (nI wl) n_at n_rm n_rj n_rc nw_9 ov_10 (nI nc) n_rd, ia (b 9) cI 5 n_kd, ia (b 10) cI 5 n_ag, ia (b 11) cB 5 n_hS, ia (b 12) cB 5 n_iS, ia (b 26) cB 5 iE_13, ia (b 13) cI 5 n_de, ia (b 14) cI 5 n_fr, ia (b 24) cI 5 ho_11, ia (b 25) cI 6 vd_12, ia (b 28) cI 5 rw1, ia (b 15) cI 5 n_we, ia (b 29) cI 5 (tbF rw1 fo1 nc)] (by rw [hie]) ?_
                refine v_aload_n C dX5_findOrder_100 3 rfl ?_
                refine v_callMi C l_X5_190 (m_X5_nextRow b nc (prm nc k) n_fa n_tr n_mi (nI nj) (nI wl) n_at n_rm n_rj n_rc nw_9 ov_10 (nI nc) n_rd rw1 hnc hnc1 hod (fun i hi => by have := prm_lt nc (by omega) k hk i hi; omega)) (by decide) dX5_findOrder_101 [0, 10] [1, 2, 3, 4, 5, 6, 7, 8, 9, 11, 12] (wr := [ia (b 9) cI 5 n_kd, ia (b 10) cI 5 n_ag, ia (b 11) cB 5 n_hS, ia (b 12) cB 5 n_iS, ia (b 26) cB 5 iE_13, ia (b 13) cI 5 n_de, ia (b 14) cI 5 n_fr, ia (b 24) cI 5 ho_11, ia (b 25) cI 6 vd_12, ia (b 15) cI 5 n_we, ia (b 29) cI 5 (tbF rw1 fo1 nc)]) (by decide) rfl rfl (by decide) (by decide) 0 rfl rfl rfl (rest := []) rfl (Nat.le_of_ble_eq_true rfl) (by decide) (fun r24 w22 h23 => ?_)
                rcases h23 with ⟨hn, rfl, rfl⟩ | ⟨g', od2, hn, rfl, rfl, hod2⟩
                · refine v_ws0 [ia (b 9) cI 5 n_kd, ia (b 10) cI 5 n_ag, ia (b 11) cB 5 n_hS, ia (b 12) cB 5 n_iS, ia (b 26) cB 5 iE_13, ia (b 13) cI 5 n_de, ia (b 14) cI 5 n_fr, ia (b 24) cI 5 ho_11, ia (b 25) cI 6 vd_12, ia (b 15) cI 5 n_we, ia (b 29) cI 5 (tbF rw1 fo1 nc), oN b n_fa n_tr n_mi (nI nj) (nI nc) (nI wl) n_at n_rm n_rj n_rc nw_9 ov_10 (nI nc) n_rd, ia (b 28) cI 5 rw1] rfl ?_
                  refine v_istore_n C [(3, .int 0), (6, .int (nI i)), (2, .int ((sitS nj n_kd n_ag st wl dn n_fr n_we n_mi s0 (prm nc k) nc).2.2.2.2.1)), (0, .ref (b 0)), (1, .int 1)] dX5_findOrder_104 (by decide) rfl ?_
                  refine v_goto C 9 dX5_findOrder_105 (by decide) ?_
                  refine v_iload_n C dX5_findOrder_9 0 rfl ?_
                  refine v_if_eq C 108 dX5_findOrder_10 (by decide) (fun _ => ?_) (fun h => absurd h (by decide))
                  refine v_iload_n C dX5_findOrder_108 2 rfl ?_
                  refine v_perm (ws' := [oN b n_fa n_tr n_mi (nI nj) (nI nc) (nI wl) n_at n_rm n_rj n_rc nw_9 ov_10 (nI nc) n_rd, ia (b 9) cI 5 n_kd, ia (b 10) cI 5 n_ag, ia (b 11) cB 5 n_hS, ia (b 12) cB 5 n_iS, ia (b 26) cB 5 iE_13, ia (b 13) cI 5 n_de, ia (b 14) cI 5 n_fr, ia (b 24) cI 5 ho_11, ia (b 25) cI 6 vd_12, ia (b 28) cI 5 rw1, ia (b 15) cI 5 n_we, ia (b 29) cI 5 (tbF rw1 fo1 nc)]) [11, 0, 1, 2, 3, 4, 5, 6, 7, 8, 12, 9, 10] (by decide) rfl ?_
                  exact v_reti C hA dX5_findOrder_109 rfl (have hke := prm_none (by omega) hnc1 hk hn; ⟨_, _, _, _, _, _, _, _, by rw [← hke, hF, sg2_1], rfl, by rw [← hke, hF]; exact (fun p hp => by rw [tbF_in hp, hod p hp])⟩)
                · refine v_ws0 [ia (b 9) cI 5 n_kd, ia (b 10) cI 5 n_ag, ia (b 11) cB 5 n_hS, ia (b 12) cB 5 n_iS, ia (b 26) cB 5 iE_13, ia (b 13) cI 5 n_de, ia (b 14) cI 5 n_fr, ia (b 24) cI 5 ho_11, ia (b 25) cI 6 vd_12, ia (b 15) cI 5 n_we, ia (b 29) cI 5 (tbF rw1 fo1 nc), oN b n_fa n_tr n_mi (nI nj) (nI nc) (nI wl) n_at n_rm n_rj n_rc nw_9 ov_10 (nI nc) n_rd, ia (b 28) cI 5 od2] rfl ?_
                  refine v_istore_n C [(3, .int 1), (6, .int (nI i)), (2, .int ((sitS nj n_kd n_ag st wl dn n_fr n_we n_mi s0 (prm nc k) nc).2.2.2.2.1)), (0, .ref (b 0)), (1, .int 1)] dX5_findOrder_104 (by decide) rfl ?_
                  refine v_goto C 9 dX5_findOrder_105 (by decide) ?_
                  have hnx := prm_some (by omega) hnc1 hk hn
                  refine v_perm (ws' := [oN b n_fa n_tr n_mi (nI nj) (nI nc) (nI wl) n_at n_rm n_rj n_rc nw_9 ov_10 (nI nc) n_rd, ia (b 9) cI 5 n_kd, ia (b 10) cI 5 n_ag, ia (b 11) cB 5 n_hS, ia (b 12) cB 5 n_iS, ia (b 26) cB 5 iE_13, ia (b 13) cI 5 n_de, ia (b 14) cI 5 n_fr, ia (b 24) cI 5 ho_11, ia (b 25) cI 6 vd_12, ia (b 28) cI 5 od2, ia (b 15) cI 5 n_we, ia (b 29) cI 5 (tbF rw1 fo1 nc)]) [11, 0, 1, 2, 3, 4, 5, 6, 7, 8, 12, 9, 10] (by decide) rfl ?_
                  refine v_loc [0, 2, 3, 4] (lv' := [(3, .int 1), (2, .int ((sitS nj n_kd n_ag st wl dn n_fr n_we n_mi s0 (prm nc k) nc).2.2.2.2.1)), (0, .ref (b 0)), (1, .int 1)]) rfl ?_
                  exact ihn_5 (k + 1) ((sitS nj n_kd n_ag st wl dn n_fr n_we n_mi s0 (prm nc k) nc).2.2.2.2.1) (1 * (fun kx => (sitS nj n_kd n_ag st wl dn n_fr n_we n_mi s0 (prm nc kx) nc).2.2.2.2.1) k) k nw_9 ov_10 ho_11 vd_12 iE_13 od2 (tbF rw1 fo1 nc) (by omega) hnx.1 hF (fun p hp => by rw [hod2 p hp, hnx.2 p hp]) (Or.inr ⟨by omega, rfl, rfl, by omega, fun p hp => by rw [tbF_in hp, hod p hp]⟩)
              · have nc21 : i < nc := nI_ltD c21 (by omega)
                refine v_aload_n C dX5_findOrder_80 3 rfl ?_
                refine v_get C f_X5_59 dX5_findOrder_81 0 rfl rfl ?_
                refine v_iload C dX5_findOrder_84 0 rfl ?_
                refine v_aload_n C dX5_findOrder_86 3 rfl ?_
                refine v_get C f_X5_56 dX5_findOrder_87 0 rfl rfl ?_
                refine v_iload C dX5_findOrder_90 0 rfl ?_
                refine v_ialdN C dX5_findOrder_92 10 rfl i rfl (by omega) (by decide) ?_
                refine v_iastN C [oN b n_fa n_tr n_mi (nI nj) (nI nc) (nI wl) n_at n_rm n_rj n_rc nw_9 ov_10 (nI nc) n_rd, ia (b 9) cI 5 n_kd, ia (b 10) cI 5 n_ag, ia (b 11) cB 5 n_hS, ia (b 12) cB 5 n_iS, ia (b 26) cB 5 iE_13, ia (b 13) cI 5 n_de, ia (b 14) cI 5 n_fr, ia (b 24) cI 5 ho_11, ia (b 25) cI 6 vd_12, ia (b 28) cI 5 rw1, ia (b 15) cI 5 n_we, ia (b 29) cI 5 (upd (tbF rw1 fo1 i) i (rw1 i))] dX5_findOrder_93 12 rfl i rfl (by omega) (by decide) rfl ?_
                refine v_ws0 [oN b n_fa n_tr n_mi (nI nj) (nI nc) (nI wl) n_at n_rm n_rj n_rc nw_9 ov_10 (nI nc) n_rd, ia (b 9) cI 5 n_kd, ia (b 10) cI 5 n_ag, ia (b 11) cB 5 n_hS, ia (b 12) cB 5 n_iS, ia (b 26) cB 5 iE_13, ia (b 13) cI 5 n_de, ia (b 14) cI 5 n_fr, ia (b 24) cI 5 ho_11, ia (b 25) cI 6 vd_12, ia (b 28) cI 5 rw1, ia (b 15) cI 5 n_we, ia (b 29) cI 5 (tbF rw1 fo1 (i + 1))] (by rw [← tbF_s rw1]) ?_
                refine v_iinc C (nI (i + 1)) [(6, .int (nI (i + 1))), (2, .int ((sitS nj n_kd n_ag st wl dn n_fr n_we n_mi s0 (prm nc k) nc).2.2.2.2.1)), (3, .int 1), (0, .ref (b 0)), (1, .int 1)] 0 dX5_findOrder_94 rfl (nI_inc _) (by decide) rfl ?_
                refine v_goto C 71 dX5_findOrder_97 (by decide) ?_
                exact ihn_20 (i + 1) (by omega) (by omega)
          refine v_loc [0, 1, 4, 5, 6] (lv' := [(6, .int 0), (2, .int ((sitS nj n_kd n_ag st wl dn n_fr n_we n_mi s0 (prm nc k) nc).2.2.2.2.1)), (3, .int 1), (0, .ref (b 0)), (1, .int 1)]) rfl ?_
          exact lq (nc - 0 + 1) 0 (by omega) (by omega)
        · obtain ⟨hkp, hb1, hb2, hb3, hb4⟩ := fo_some hbe c18
          have hF : fhS (fun kx => (sitS nj n_kd n_ag st wl dn n_fr n_we n_mi s0 (prm nc kx) nc).2.2.2.2.1) 1 (k + 1) = (hi, bk) := by rw [fhS, hfh, if_pos (by rw [hb2]; exact (le_1 (hvb k hk) (hvb bk hb3) hnc).mpr (by rw [← hb1]; exact c17))]
          refine v_iload C dX5_findOrder_60 0 rfl ?_
          refine v_if_eq C 100 dX5_findOrder_62 (by decide) (fun _ => ?_) (fun h => absurd h (by decide))
          refine v_aload_n C dX5_findOrder_100 4 rfl ?_
          refine v_callMi C l_X5_190 (m_X5_nextRow b nc (prm nc k) n_fa n_tr n_mi (nI nj) (nI wl) n_at n_rm n_rj n_rc nw_9 ov_10 (nI nc) n_rd rw1 hnc hnc1 hod (fun i hi => by have := prm_lt nc (by omega) k hk i hi; omega)) (by decide) dX5_findOrder_101 [2, 12] [0, 1, 3, 4, 5, 6, 7, 8, 9, 10, 11] (wr := [ia (b 15) cI 5 n_we, ia (b 29) cI 5 fo1, ia (b 9) cI 5 n_kd, ia (b 10) cI 5 n_ag, ia (b 11) cB 5 n_hS, ia (b 12) cB 5 n_iS, ia (b 26) cB 5 iE_13, ia (b 13) cI 5 n_de, ia (b 14) cI 5 n_fr, ia (b 24) cI 5 ho_11, ia (b 25) cI 6 vd_12]) (by decide) rfl rfl (by decide) (by decide) 2 rfl rfl rfl (rest := []) rfl (Nat.le_of_ble_eq_true rfl) (by decide) (fun r27 w25 h26 => ?_)
          rcases h26 with ⟨hn, rfl, rfl⟩ | ⟨g', od2, hn, rfl, rfl, hod2⟩
          · refine v_ws0 [ia (b 15) cI 5 n_we, ia (b 29) cI 5 fo1, ia (b 9) cI 5 n_kd, ia (b 10) cI 5 n_ag, ia (b 11) cB 5 n_hS, ia (b 12) cB 5 n_iS, ia (b 26) cB 5 iE_13, ia (b 13) cI 5 n_de, ia (b 14) cI 5 n_fr, ia (b 24) cI 5 ho_11, ia (b 25) cI 6 vd_12, oN b n_fa n_tr n_mi (nI nj) (nI nc) (nI wl) n_at n_rm n_rj n_rc nw_9 ov_10 (nI nc) n_rd, ia (b 28) cI 5 rw1] rfl ?_
            refine v_istore_n C [(3, .int 0), (5, .int 0), (4, .int ((sitS nj n_kd n_ag st wl dn n_fr n_we n_mi s0 (prm nc k) nc).2.2.2.2.1)), (2, .int be), (0, .ref (b 0)), (1, .int 1)] dX5_findOrder_104 (by decide) rfl ?_
            refine v_goto C 9 dX5_findOrder_105 (by decide) ?_
            refine v_iload_n C dX5_findOrder_9 0 rfl ?_
            refine v_if_eq C 108 dX5_findOrder_10 (by decide) (fun _ => ?_) (fun h => absurd h (by decide))
            refine v_iload_n C dX5_findOrder_108 3 rfl ?_
            refine v_perm (ws' := [oN b n_fa n_tr n_mi (nI nj) (nI nc) (nI wl) n_at n_rm n_rj n_rc nw_9 ov_10 (nI nc) n_rd, ia (b 9) cI 5 n_kd, ia (b 10) cI 5 n_ag, ia (b 11) cB 5 n_hS, ia (b 12) cB 5 n_iS, ia (b 26) cB 5 iE_13, ia (b 13) cI 5 n_de, ia (b 14) cI 5 n_fr, ia (b 24) cI 5 ho_11, ia (b 25) cI 6 vd_12, ia (b 28) cI 5 rw1, ia (b 15) cI 5 n_we, ia (b 29) cI 5 fo1]) [11, 2, 3, 4, 5, 6, 7, 8, 9, 10, 12, 0, 1] (by decide) rfl ?_
            exact v_reti C hA dX5_findOrder_109 rfl (have hke := prm_none (by omega) hnc1 hk hn; ⟨_, _, _, _, _, _, _, _, by rw [← hke, hF, hb2, sg2_1]; exact hb1, rfl, by rw [← hke, hF]; exact hb4⟩)
          · refine v_ws0 [ia (b 15) cI 5 n_we, ia (b 29) cI 5 fo1, ia (b 9) cI 5 n_kd, ia (b 10) cI 5 n_ag, ia (b 11) cB 5 n_hS, ia (b 12) cB 5 n_iS, ia (b 26) cB 5 iE_13, ia (b 13) cI 5 n_de, ia (b 14) cI 5 n_fr, ia (b 24) cI 5 ho_11, ia (b 25) cI 6 vd_12, oN b n_fa n_tr n_mi (nI nj) (nI nc) (nI wl) n_at n_rm n_rj n_rc nw_9 ov_10 (nI nc) n_rd, ia (b 28) cI 5 od2] rfl ?_
            refine v_istore_n C [(3, .int 1), (5, .int 0), (4, .int ((sitS nj n_kd n_ag st wl dn n_fr n_we n_mi s0 (prm nc k) nc).2.2.2.2.1)), (2, .int be), (0, .ref (b 0)), (1, .int 1)] dX5_findOrder_104 (by decide) rfl ?_
            refine v_goto C 9 dX5_findOrder_105 (by decide) ?_
            have hnx := prm_some (by omega) hnc1 hk hn
            refine v_perm (ws' := [oN b n_fa n_tr n_mi (nI nj) (nI nc) (nI wl) n_at n_rm n_rj n_rc nw_9 ov_10 (nI nc) n_rd, ia (b 9) cI 5 n_kd, ia (b 10) cI 5 n_ag, ia (b 11) cB 5 n_hS, ia (b 12) cB 5 n_iS, ia (b 26) cB 5 iE_13, ia (b 13) cI 5 n_de, ia (b 14) cI 5 n_fr, ia (b 24) cI 5 ho_11, ia (b 25) cI 6 vd_12, ia (b 28) cI 5 od2, ia (b 15) cI 5 n_we, ia (b 29) cI 5 fo1]) [11, 2, 3, 4, 5, 6, 7, 8, 9, 10, 12, 0, 1] (by decide) rfl ?_
            refine v_loc [0, 3, 4, 5] (lv' := [(3, .int 1), (2, .int be), (0, .ref (b 0)), (1, .int 1)]) rfl ?_
            exact ihn_5 (k + 1) be hi bk nw_9 ov_10 ho_11 vd_12 iE_13 od2 fo1 (by omega) hnx.1 hF (fun p hp => by rw [hod2 p hp, hnx.2 p hp]) (Or.inr ⟨by omega, hb1, hb2, hb3, hb4⟩)
      · refine v_iconst C 1 dX5_findOrder_33 (by decide) ?_
        refine v_goto C 52 dX5_findOrder_34 (by decide) ?_
        refine v_istore C [(5, .int 1), (4, .int ((sitS nj n_kd n_ag st wl dn n_fr n_we n_mi s0 (prm nc k) nc).2.2.2.2.1)), (3, .int 1), (2, .int be), (0, .ref (b 0)), (1, .int 1)] dX5_findOrder_52 (by decide) rfl ?_
        refine v_iload_n C dX5_findOrder_54 3 rfl ?_
        refine v_bipush C (-9) dX5_findOrder_55 (by decide) ?_
        refine v_icmp_eq C 65 dX5_findOrder_57 (by decide) (fun c28 => ?_) (fun c28 => ?_)
        · have hk0 : k = 0 := fo_zero hbe (fun q => hvb bk q) c28
          have hF : fhS (fun kx => (sitS nj n_kd n_ag st wl dn n_fr n_we n_mi s0 (prm nc kx) nc).2.2.2.2.1) 1 (k + 1) = (1 * (fun kx => (sitS nj n_kd n_ag st wl dn n_fr n_we n_mi s0 (prm nc kx) nc).2.2.2.2.1) k, k) := fo_first hk0 hv
          refine v_iload C dX5_findOrder_65 1 rfl ?_
          refine v_istore_n C [(2, .int ((sitS nj n_kd n_ag st wl dn n_fr n_we n_mi s0 (prm nc k) nc).2.2.2.2.1)), (5, .int 1), (4, .int ((sitS nj n_kd n_ag st wl dn n_fr n_we n_mi s0 (prm nc k) nc).2.2.2.2.1)), (3, .int 1), (0, .ref (b 0)), (1, .int 1)] dX5_findOrder_67 (by decide) rfl ?_
          refine v_iconst C 0 dX5_findOrder_68 (by decide) ?_
          refine v_istore C [(6, .int 0), (2, .int ((sitS nj n_kd n_ag st wl dn n_fr n_we n_mi s0 (prm nc k) nc).2.2.2.2.1)), (5, .int 1), (4, .int ((sitS nj n_kd n_ag st wl dn n_fr n_we n_mi s0 (prm nc k) nc).2.2.2.2.1)), (3, .int 1), (0, .ref (b 0)), (1, .int 1)] dX5_findOrder_69 (by decide) rfl ?_
          refine v_perm (ws' := [oN b n_fa n_tr n_mi (nI nj) (nI nc) (nI wl) n_at n_rm n_rj n_rc nw_9 ov_10 (nI nc) n_rd, ia (b 9) cI 5 n_kd, ia (b 10) cI 5 n_ag, ia (b 11) cB 5 n_hS, ia (b 12) cB 5 n_iS, ia (b 26) cB 5 iE_13, ia (b 13) cI 5 n_de, ia (b 14) cI 5 n_fr, ia (b 24) cI 5 ho_11, ia (b 25) cI 6 vd_12, ia (b 28) cI 5 rw1, ia (b 15) cI 5 n_we, ia (b 29) cI 5 fo1]) [2, 3, 4, 5, 6, 7, 8, 9, 10, 11, 12, 0, 1] (by decide) rfl ?_
          refine v_ws0 [oN b n_fa n_tr n_mi (nI nj) (nI nc) (nI wl) n_at n_rm n_rj n_rc nw_9 ov_10 (nI nc) n_rd, ia (b 9) cI 5 n_kd, ia (b 10) cI 5 n_ag, ia (b 11) cB 5 n_hS, ia (b 12) cB 5 n_iS, ia (b 26) cB 5 iE_13, ia (b 13) cI 5 n_de, ia (b 14) cI 5 n_fr, ia (b 24) cI 5 ho_11, ia (b 25) cI 6 vd_12, ia (b 28) cI 5 rw1, ia (b 15) cI 5 n_we, ia (b 29) cI 5 (tbF rw1 fo1 0)] (by rw [tbF_0]) ?_
          have lq : ∀ (n_30 : Nat) (i : Nat), nc - i < n_30 → (i ≤ nc) → V zp l ze (rmOf 5 113) zs zm [.ref (b 0), .int 1].toArray zb zt zc D (IM zA zs) (QMi zb [.ref (b 0), .int 1].toArray zs D cI cB cS [oN b n_fa n_tr n_mi (nI nj) (nI nc) (nI wl) n_at n_rm n_rj n_rc n_nw n_ov n_rl n_rd, ia (b 9) cI 5 n_kd, ia (b 10) cI 5 n_ag, ia (b 11) cB 5 n_hS, ia (b 12) cB 5 n_iS, ia (b 26) cB 5 n_iE, ia (b 13) cI 5 n_de, ia (b 14) cI 5 n_fr, ia (b 24) cI 5 n_ho, ia (b 25) cI 6 n_vd, ia (b 28) cI 5 n_rw, ia (b 15) cI 5 n_we, ia (b 29) cI 5 n_fo] zz (fun r w => ∃ (nw' : Int32) (ov' : Int32) (ho' : Nat → Int32) (vd' : Nat → Int32) (iE' : Nat → Int32) (rl' : Int32) (rw' : Nat → Int32) (fo' : Nat → Int32), r = 1 * (fhS (fun kx => (sitS nj n_kd n_ag st wl dn n_fr n_we n_mi s0 (prm nc kx) nc).2.2.2.2.1) 1 (fct nc)).1 ∧ w = [oN b n_fa n_tr n_mi (nI nj) (nI nc) (nI wl) n_at n_rm n_rj n_rc nw' ov' rl' n_rd, ia (b 9) cI 5 n_kd, ia (b 10) cI 5 n_ag, ia (b 11) cB 5 n_hS, ia (b 12) cB 5 n_iS, ia (b 26) cB 5 iE', ia (b 13) cI 5 n_de, ia (b 14) cI 5 n_fr, ia (b 24) cI 5 ho', ia (b 25) cI 6 vd', ia (b 28) cI 5 rw', ia (b 15) cI 5 n_we, ia (b 29) cI 5 fo'] ∧ ∀ p, p < nc → fo' p = nI (prm nc (fhS (fun kx => (sitS nj n_kd n_ag st wl dn n_fr n_we n_mi s0 (prm nc kx) nc).2.2.2.2.1) 1 (fct nc)).2 p))) 0 0 7 [oN b n_fa n_tr n_mi (nI nj) (nI nc) (nI wl) n_at n_rm n_rj n_rc nw_9 ov_10 (nI nc) n_rd, ia (b 9) cI 5 n_kd, ia (b 10) cI 5 n_ag, ia (b 11) cB 5 n_hS, ia (b 12) cB 5 n_iS, ia (b 26) cB 5 iE_13, ia (b 13) cI 5 n_de, ia (b 14) cI 5 n_fr, ia (b 24) cI 5 ho_11, ia (b 25) cI 6 vd_12, ia (b 28) cI 5 rw1, ia (b 15) cI 5 n_we, ia (b 29) cI 5 (tbF rw1 fo1 i)] [(6, .int (nI i)), (2, .int ((sitS nj n_kd n_ag st wl dn n_fr n_we n_mi s0 (prm nc k) nc).2.2.2.2.1)), (3, .int 1), (0, .ref (b 0)), (1, .int 1)] 71 [] := by
            intro n_30
            induction n_30 with
            | zero => intro i b29; exact absurd b29 (by omega)
            | succ n_30 ihn_30 =>
              intro i b29 hi2
              refine v_iload C dX5_findOrder_71 0 rfl ?_
              refine v_aload_n C dX5_findOrder_73 3 rfl ?_
              refine v_get C f_X5_81 dX5_findOrder_74 0 rfl rfl ?_
              refine v_icmp_ge C 100 dX5_findOrder_77 (by decide) (fun c31 => ?_) (fun c31 => ?_)
              · have nc31 : nc ≤ i := nI_leD c31 (by omega)
                have hie : i = nc := by omega
                refine v_ws0 [oN b n_fa n_tr n_mi (nI nj) (nI nc) (nI wl) n_at n_rm n_rj n_rc nw_9 ov_10 (nI nc) n_rd, ia (b 9) cI 5 n_kd, ia (b 10) cI 5 n_ag, ia (b 11) cB 5 n_hS, ia (b 12) cB 5 n_iS, ia (b 26) cB 5 iE_13, ia (b 13) cI 5 n_de, ia (b 14) cI 5 n_fr, ia (b 24) cI 5 ho_11, ia (b 25) cI 6 vd_12, ia (b 28) cI 5 rw1, ia (b 15) cI 5 n_we, ia (b 29) cI 5 (tbF rw1 fo1 nc)] (by rw [hie]) ?_
                refine v_aload_n C dX5_findOrder_100 3 rfl ?_
                refine v_callMi C l_X5_190 (m_X5_nextRow b nc (prm nc k) n_fa n_tr n_mi (nI nj) (nI wl) n_at n_rm n_rj n_rc nw_9 ov_10 (nI nc) n_rd rw1 hnc hnc1 hod (fun i hi => by have := prm_lt nc (by omega) k hk i hi; omega)) (by decide) dX5_findOrder_101 [0, 10] [1, 2, 3, 4, 5, 6, 7, 8, 9, 11, 12] (wr := [ia (b 9) cI 5 n_kd, ia (b 10) cI 5 n_ag, ia (b 11) cB 5 n_hS, ia (b 12) cB 5 n_iS, ia (b 26) cB 5 iE_13, ia (b 13) cI 5 n_de, ia (b 14) cI 5 n_fr, ia (b 24) cI 5 ho_11, ia (b 25) cI 6 vd_12, ia (b 15) cI 5 n_we, ia (b 29) cI 5 (tbF rw1 fo1 nc)]) (by decide) rfl rfl (by decide) (by decide) 0 rfl rfl rfl (rest := []) rfl (Nat.le_of_ble_eq_true rfl) (by decide) (fun r34 w32 h33 => ?_)
                rcases h33 with ⟨hn, rfl, rfl⟩ | ⟨g', od2, hn, rfl, rfl, hod2⟩
                · refine v_ws0 [ia (b 9) cI 5 n_kd, ia (b 10) cI 5 n_ag, ia (b 11) cB 5 n_hS, ia (b 12) cB 5 n_iS, ia (b 26) cB 5 iE_13, ia (b 13) cI 5 n_de, ia (b 14) cI 5 n_fr, ia (b 24) cI 5 ho_11, ia (b 25) cI 6 vd_12, ia (b 15) cI 5 n_we, ia (b 29) cI 5 (tbF rw1 fo1 nc), oN b n_fa n_tr n_mi (nI nj) (nI nc) (nI wl) n_at n_rm n_rj n_rc nw_9 ov_10 (nI nc) n_rd, ia (b 28) cI 5 rw1] rfl ?_
                  refine v_istore_n C [(3, .int 0), (6, .int (nI i)), (2, .int ((sitS nj n_kd n_ag st wl dn n_fr n_we n_mi s0 (prm nc k) nc).2.2.2.2.1)), (0, .ref (b 0)), (1, .int 1)] dX5_findOrder_104 (by decide) rfl ?_
                  refine v_goto C 9 dX5_findOrder_105 (by decide) ?_
                  refine v_iload_n C dX5_findOrder_9 0 rfl ?_
                  refine v_if_eq C 108 dX5_findOrder_10 (by decide) (fun _ => ?_) (fun h => absurd h (by decide))
                  refine v_iload_n C dX5_findOrder_108 2 rfl ?_
                  refine v_perm (ws' := [oN b n_fa n_tr n_mi (nI nj) (nI nc) (nI wl) n_at n_rm n_rj n_rc nw_9 ov_10 (nI nc) n_rd, ia (b 9) cI 5 n_kd, ia (b 10) cI 5 n_ag, ia (b 11) cB 5 n_hS, ia (b 12) cB 5 n_iS, ia (b 26) cB 5 iE_13, ia (b 13) cI 5 n_de, ia (b 14) cI 5 n_fr, ia (b 24) cI 5 ho_11, ia (b 25) cI 6 vd_12, ia (b 28) cI 5 rw1, ia (b 15) cI 5 n_we, ia (b 29) cI 5 (tbF rw1 fo1 nc)]) [11, 0, 1, 2, 3, 4, 5, 6, 7, 8, 12, 9, 10] (by decide) rfl ?_
                  exact v_reti C hA dX5_findOrder_109 rfl (have hke := prm_none (by omega) hnc1 hk hn; ⟨_, _, _, _, _, _, _, _, by rw [← hke, hF, sg2_1], rfl, by rw [← hke, hF]; exact (fun p hp => by rw [tbF_in hp, hod p hp])⟩)
                · refine v_ws0 [ia (b 9) cI 5 n_kd, ia (b 10) cI 5 n_ag, ia (b 11) cB 5 n_hS, ia (b 12) cB 5 n_iS, ia (b 26) cB 5 iE_13, ia (b 13) cI 5 n_de, ia (b 14) cI 5 n_fr, ia (b 24) cI 5 ho_11, ia (b 25) cI 6 vd_12, ia (b 15) cI 5 n_we, ia (b 29) cI 5 (tbF rw1 fo1 nc), oN b n_fa n_tr n_mi (nI nj) (nI nc) (nI wl) n_at n_rm n_rj n_rc nw_9 ov_10 (nI nc) n_rd, ia (b 28) cI 5 od2] rfl ?_
                  refine v_istore_n C [(3, .int 1), (6, .int (nI i)), (2, .int ((sitS nj n_kd n_ag st wl dn n_fr n_we n_mi s0 (prm nc k) nc).2.2.2.2.1)), (0, .ref (b 0)), (1, .int 1)] dX5_findOrder_104 (by decide) rfl ?_
                  refine v_goto C 9 dX5_findOrder_105 (by decide) ?_
                  have hnx := prm_some (by omega) hnc1 hk hn
                  refine v_perm (ws' := [oN b n_fa n_tr n_mi (nI nj) (nI nc) (nI wl) n_at n_rm n_rj n_rc nw_9 ov_10 (nI nc) n_rd, ia (b 9) cI 5 n_kd, ia (b 10) cI 5 n_ag, ia (b 11) cB 5 n_hS, ia (b 12) cB 5 n_iS, ia (b 26) cB 5 iE_13, ia (b 13) cI 5 n_de, ia (b 14) cI 5 n_fr, ia (b 24) cI 5 ho_11, ia (b 25) cI 6 vd_12, ia (b 28) cI 5 od2, ia (b 15) cI 5 n_we, ia (b 29) cI 5 (tbF rw1 fo1 nc)]) [11, 0, 1, 2, 3, 4, 5, 6, 7, 8, 12, 9, 10] (by decide) rfl ?_
                  refine v_loc [0, 2, 3, 4] (lv' := [(3, .int 1), (2, .int ((sitS nj n_kd n_ag st wl dn n_fr n_we n_mi s0 (prm nc k) nc).2.2.2.2.1)), (0, .ref (b 0)), (1, .int 1)]) rfl ?_
                  exact ihn_5 (k + 1) ((sitS nj n_kd n_ag st wl dn n_fr n_we n_mi s0 (prm nc k) nc).2.2.2.2.1) (1 * (fun kx => (sitS nj n_kd n_ag st wl dn n_fr n_we n_mi s0 (prm nc kx) nc).2.2.2.2.1) k) k nw_9 ov_10 ho_11 vd_12 iE_13 od2 (tbF rw1 fo1 nc) (by omega) hnx.1 hF (fun p hp => by rw [hod2 p hp, hnx.2 p hp]) (Or.inr ⟨by omega, rfl, rfl, by omega, fun p hp => by rw [tbF_in hp, hod p hp]⟩)
              · have nc31 : i < nc := nI_ltD c31 (by omega)
                refine v_aload_n C dX5_findOrder_80 3 rfl ?_
                refine v_get C f_X5_59 dX5_findOrder_81 0 rfl rfl ?_
                refine v_iload C dX5_findOrder_84 0 rfl ?_
                refine v_aload_n C dX5_findOrder_86 3 rfl ?_
                refine v_get C f_X5_56 dX5_findOrder_87 0 rfl rfl ?_
                refine v_iload C dX5_findOrder_90 0 rfl ?_
                refine v_ialdN C dX5_findOrder_92 10 rfl i rfl (by omega) (by decide) ?_
                refine v_iastN C [oN b n_fa n_tr n_mi (nI nj) (nI nc) (nI wl) n_at n_rm n_rj n_rc nw_9 ov_10 (nI nc) n_rd, ia (b 9) cI 5 n_kd, ia (b 10) cI 5 n_ag, ia (b 11) cB 5 n_hS, ia (b 12) cB 5 n_iS, ia (b 26) cB 5 iE_13, ia (b 13) cI 5 n_de, ia (b 14) cI 5 n_fr, ia (b 24) cI 5 ho_11, ia (b 25) cI 6 vd_12, ia (b 28) cI 5 rw1, ia (b 15) cI 5 n_we, ia (b 29) cI 5 (upd (tbF rw1 fo1 i) i (rw1 i))] dX5_findOrder_93 12 rfl i rfl (by omega) (by decide) rfl ?_
                refine v_ws0 [oN b n_fa n_tr n_mi (nI nj) (nI nc) (nI wl) n_at n_rm n_rj n_rc nw_9 ov_10 (nI nc) n_rd, ia (b 9) cI 5 n_kd, ia (b 10) cI 5 n_ag, ia (b 11) cB 5 n_hS, ia (b 12) cB 5 n_iS, ia (b 26) cB 5 iE_13, ia (b 13) cI 5 n_de, ia (b 14) cI 5 n_fr, ia (b 24) cI 5 ho_11, ia (b 25) cI 6 vd_12, ia (b 28) cI 5 rw1, ia (b 15) cI 5 n_we, ia (b 29) cI 5 (tbF rw1 fo1 (i + 1))] (by rw [← tbF_s rw1]) ?_
                refine v_iinc C (nI (i + 1)) [(6, .int (nI (i + 1))), (2, .int ((sitS nj n_kd n_ag st wl dn n_fr n_we n_mi s0 (prm nc k) nc).2.2.2.2.1)), (3, .int 1), (0, .ref (b 0)), (1, .int 1)] 0 dX5_findOrder_94 rfl (nI_inc _) (by decide) rfl ?_
                refine v_goto C 71 dX5_findOrder_97 (by decide) ?_
                exact ihn_30 (i + 1) (by omega) (by omega)
          refine v_loc [0, 1, 4, 5, 6] (lv' := [(6, .int 0), (2, .int ((sitS nj n_kd n_ag st wl dn n_fr n_we n_mi s0 (prm nc k) nc).2.2.2.2.1)), (3, .int 1), (0, .ref (b 0)), (1, .int 1)]) rfl ?_
          exact lq (nc - 0 + 1) 0 (by omega) (by omega)
        · obtain ⟨hkp, hb1, hb2, hb3, hb4⟩ := fo_some hbe c28
          have hF : fhS (fun kx => (sitS nj n_kd n_ag st wl dn n_fr n_we n_mi s0 (prm nc kx) nc).2.2.2.2.1) 1 (k + 1) = (1 * (fun kx => (sitS nj n_kd n_ag st wl dn n_fr n_we n_mi s0 (prm nc kx) nc).2.2.2.2.1) k, k) := by rw [fhS, hfh, if_neg (fun q => c17 (by rw [hb1]; rw [hb2] at q; exact (le_1 (hvb k hk) (hvb bk hb3) hnc).mp q))]
          refine v_iload C dX5_findOrder_60 0 rfl ?_
          refine v_if_eq C 100 dX5_findOrder_62 (by decide) (fun h => absurd h (by decide)) (fun _ => ?_)
          refine v_iload C dX5_findOrder_65 1 rfl ?_
          refine v_istore_n C [(2, .int ((sitS nj n_kd n_ag st wl dn n_fr n_we n_mi s0 (prm nc k) nc).2.2.2.2.1)), (5, .int 1), (4, .int ((sitS nj n_kd n_ag st wl dn n_fr n_we n_mi s0 (prm nc k) nc).2.2.2.2.1)), (3, .int 1), (0, .ref (b 0)), (1, .int 1)] dX5_findOrder_67 (by decide) rfl ?_
          refine v_iconst C 0 dX5_findOrder_68 (by decide) ?_
          refine v_istore C [(6, .int 0), (2, .int ((sitS nj n_kd n_ag st wl dn n_fr n_we n_mi s0 (prm nc k) nc).2.2.2.2.1)), (5, .int 1), (4, .int ((sitS nj n_kd n_ag st wl dn n_fr n_we n_mi s0 (prm nc k) nc).2.2.2.2.1)), (3, .int 1), (0, .ref (b 0)), (1, .int 1)] dX5_findOrder_69 (by decide) rfl ?_
          refine v_perm (ws' := [oN b n_fa n_tr n_mi (nI nj) (nI nc) (nI wl) n_at n_rm n_rj n_rc nw_9 ov_10 (nI nc) n_rd, ia (b 9) cI 5 n_kd, ia (b 10) cI 5 n_ag, ia (b 11) cB 5 n_hS, ia (b 12) cB 5 n_iS, ia (b 26) cB 5 iE_13, ia (b 13) cI 5 n_de, ia (b 14) cI 5 n_fr, ia (b 24) cI 5 ho_11, ia (b 25) cI 6 vd_12, ia (b 28) cI 5 rw1, ia (b 15) cI 5 n_we, ia (b 29) cI 5 fo1]) [2, 3, 4, 5, 6, 7, 8, 9, 10, 11, 12, 0, 1] (by decide) rfl ?_
          refine v_ws0 [oN b n_fa n_tr n_mi (nI nj) (nI nc) (nI wl) n_at n_rm n_rj n_rc nw_9 ov_10 (nI nc) n_rd, ia (b 9) cI 5 n_kd, ia (b 10) cI 5 n_ag, ia (b 11) cB 5 n_hS, ia (b 12) cB 5 n_iS, ia (b 26) cB 5 iE_13, ia (b 13) cI 5 n_de, ia (b 14) cI 5 n_fr, ia (b 24) cI 5 ho_11, ia (b 25) cI 6 vd_12, ia (b 28) cI 5 rw1, ia (b 15) cI 5 n_we, ia (b 29) cI 5 (tbF rw1 fo1 0)] (by rw [tbF_0]) ?_
          have lq : ∀ (n_36 : Nat) (i : Nat), nc - i < n_36 → (i ≤ nc) → V zp l ze (rmOf 5 113) zs zm [.ref (b 0), .int 1].toArray zb zt zc D (IM zA zs) (QMi zb [.ref (b 0), .int 1].toArray zs D cI cB cS [oN b n_fa n_tr n_mi (nI nj) (nI nc) (nI wl) n_at n_rm n_rj n_rc n_nw n_ov n_rl n_rd, ia (b 9) cI 5 n_kd, ia (b 10) cI 5 n_ag, ia (b 11) cB 5 n_hS, ia (b 12) cB 5 n_iS, ia (b 26) cB 5 n_iE, ia (b 13) cI 5 n_de, ia (b 14) cI 5 n_fr, ia (b 24) cI 5 n_ho, ia (b 25) cI 6 n_vd, ia (b 28) cI 5 n_rw, ia (b 15) cI 5 n_we, ia (b 29) cI 5 n_fo] zz (fun r w => ∃ (nw' : Int32) (ov' : Int32) (ho' : Nat → Int32) (vd' : Nat → Int32) (iE' : Nat → Int32) (rl' : Int32) (rw' : Nat → Int32) (fo' : Nat → Int32), r = 1 * (fhS (fun kx => (sitS nj n_kd n_ag st wl dn n_fr n_we n_mi s0 (prm nc kx) nc).2.2.2.2.1) 1 (fct nc)).1 ∧ w = [oN b n_fa n_tr n_mi (nI nj) (nI nc) (nI wl) n_at n_rm n_rj n_rc nw' ov' rl' n_rd, ia (b 9) cI 5 n_kd, ia (b 10) cI 5 n_ag, ia (b 11) cB 5 n_hS, ia (b 12) cB 5 n_iS, ia (b 26) cB 5 iE', ia (b 13) cI 5 n_de, ia (b 14) cI 5 n_fr, ia (b 24) cI 5 ho', ia (b 25) cI 6 vd', ia (b 28) cI 5 rw', ia (b 15) cI 5 n_we, ia (b 29) cI 5 fo'] ∧ ∀ p, p < nc → fo' p = nI (prm nc (fhS (fun kx => (sitS nj n_kd n_ag st wl dn n_fr n_we n_mi s0 (prm nc kx) nc).2.2.2.2.1) 1 (fct nc)).2 p))) 0 0 7 [oN b n_fa n_tr n_mi (nI nj) (nI nc) (nI wl) n_at n_rm n_rj n_rc nw_9 ov_10 (nI nc) n_rd, ia (b 9) cI 5 n_kd, ia (b 10) cI 5 n_ag, ia (b 11) cB 5 n_hS, ia (b 12) cB 5 n_iS, ia (b 26) cB 5 iE_13, ia (b 13) cI 5 n_de, ia (b 14) cI 5 n_fr, ia (b 24) cI 5 ho_11, ia (b 25) cI 6 vd_12, ia (b 28) cI 5 rw1, ia (b 15) cI 5 n_we, ia (b 29) cI 5 (tbF rw1 fo1 i)] [(6, .int (nI i)), (2, .int ((sitS nj n_kd n_ag st wl dn n_fr n_we n_mi s0 (prm nc k) nc).2.2.2.2.1)), (3, .int 1), (0, .ref (b 0)), (1, .int 1)] 71 [] := by
            intro n_36
            induction n_36 with
            | zero => intro i b35; exact absurd b35 (by omega)
            | succ n_36 ihn_36 =>
              intro i b35 hi2
              refine v_iload C dX5_findOrder_71 0 rfl ?_
              refine v_aload_n C dX5_findOrder_73 3 rfl ?_
              refine v_get C f_X5_81 dX5_findOrder_74 0 rfl rfl ?_
              refine v_icmp_ge C 100 dX5_findOrder_77 (by decide) (fun c37 => ?_) (fun c37 => ?_)
              · have nc37 : nc ≤ i := nI_leD c37 (by omega)
                have hie : i = nc := by omega
                refine v_ws0 [oN b n_fa n_tr n_mi (nI nj) (nI nc) (nI wl) n_at n_rm n_rj n_rc nw_9 ov_10 (nI nc) n_rd, ia (b 9) cI 5 n_kd, ia (b 10) cI 5 n_ag, ia (b 11) cB 5 n_hS, ia (b 12) cB 5 n_iS, ia (b 26) cB 5 iE_13, ia (b 13) cI 5 n_de, ia (b 14) cI 5 n_fr, ia (b 24) cI 5 ho_11, ia (b 25) cI 6 vd_12, ia (b 28) cI 5 rw1, ia (b 15) cI 5 n_we, ia (b 29) cI 5 (tbF rw1 fo1 nc)] (by rw [hie]) ?_
                refine v_aload_n C dX5_findOrder_100 3 rfl ?_
                refine v_callMi C l_X5_190 (m_X5_nextRow b nc (prm nc k) n_fa n_tr n_mi (nI nj) (nI wl) n_at n_rm n_rj n_rc nw_9 ov_10 (nI nc) n_rd rw1 hnc hnc1 hod (fun i hi => by have := prm_lt nc (by omega) k hk i hi; omega)) (by decide) dX5_findOrder_101 [0, 10] [1, 2, 3, 4, 5, 6, 7, 8, 9, 11, 12] (wr := [ia (b 9) cI 5 n_kd, ia (b 10) cI 5 n_ag, ia (b 11) cB 5 n_hS, ia (b 12) cB 5 n_iS, ia (b 26) cB 5 iE_13, ia (b 13) cI 5 n_de, ia (b 14) cI 5 n_fr, ia (b 24) cI 5 ho_11, ia (b 25) cI 6 vd_12, ia (b 15) cI 5 n_we, ia (b 29) cI 5 (tbF rw1 fo1 nc)]) (by decide) rfl rfl (by decide) (by decide) 0 rfl rfl rfl (rest := []) rfl (Nat.le_of_ble_eq_true rfl) (by decide) (fun r40 w38 h39 => ?_)
                rcases h39 with ⟨hn, rfl, rfl⟩ | ⟨g', od2, hn, rfl, rfl, hod2⟩
                · refine v_ws0 [ia (b 9) cI 5 n_kd, ia (b 10) cI 5 n_ag, ia (b 11) cB 5 n_hS, ia (b 12) cB 5 n_iS, ia (b 26) cB 5 iE_13, ia (b 13) cI 5 n_de, ia (b 14) cI 5 n_fr, ia (b 24) cI 5 ho_11, ia (b 25) cI 6 vd_12, ia (b 15) cI 5 n_we, ia (b 29) cI 5 (tbF rw1 fo1 nc), oN b n_fa n_tr n_mi (nI nj) (nI nc) (nI wl) n_at n_rm n_rj n_rc nw_9 ov_10 (nI nc) n_rd, ia (b 28) cI 5 rw1] rfl ?_
                  refine v_istore_n C [(3, .int 0), (6, .int (nI i)), (2, .int ((sitS nj n_kd n_ag st wl dn n_fr n_we n_mi s0 (prm nc k) nc).2.2.2.2.1)), (0, .ref (b 0)), (1, .int 1)] dX5_findOrder_104 (by decide) rfl ?_
                  refine v_goto C 9 dX5_findOrder_105 (by decide) ?_
                  refine v_iload_n C dX5_findOrder_9 0 rfl ?_
                  refine v_if_eq C 108 dX5_findOrder_10 (by decide) (fun _ => ?_) (fun h => absurd h (by decide))
                  refine v_iload_n C dX5_findOrder_108 2 rfl ?_
                  refine v_perm (ws' := [oN b n_fa n_tr n_mi (nI nj) (nI nc) (nI wl) n_at n_rm n_rj n_rc nw_9 ov_10 (nI nc) n_rd, ia (b 9) cI 5 n_kd, ia (b 10) cI 5 n_ag, ia (b 11) cB 5 n_hS, ia (b 12) cB 5 n_iS, ia (b 26) cB 5 iE_13, ia (b 13) cI 5 n_de, ia (b 14) cI 5 n_fr, ia (b 24) cI 5 ho_11, ia (b 25) cI 6 vd_12, ia (b 28) cI 5 rw1, ia (b 15) cI 5 n_we, ia (b 29) cI 5 (tbF rw1 fo1 nc)]) [11, 0, 1, 2, 3, 4, 5, 6, 7, 8, 12, 9, 10] (by decide) rfl ?_
                  exact v_reti C hA dX5_findOrder_109 rfl (have hke := prm_none (by omega) hnc1 hk hn; ⟨_, _, _, _, _, _, _, _, by rw [← hke, hF, sg2_1], rfl, by rw [← hke, hF]; exact (fun p hp => by rw [tbF_in hp, hod p hp])⟩)
                · refine v_ws0 [ia (b 9) cI 5 n_kd, ia (b 10) cI 5 n_ag, ia (b 11) cB 5 n_hS, ia (b 12) cB 5 n_iS, ia (b 26) cB 5 iE_13, ia (b 13) cI 5 n_de, ia (b 14) cI 5 n_fr, ia (b 24) cI 5 ho_11, ia (b 25) cI 6 vd_12, ia (b 15) cI 5 n_we, ia (b 29) cI 5 (tbF rw1 fo1 nc), oN b n_fa n_tr n_mi (nI nj) (nI nc) (nI wl) n_at n_rm n_rj n_rc nw_9 ov_10 (nI nc) n_rd, ia (b 28) cI 5 od2] rfl ?_
                  refine v_istore_n C [(3, .int 1), (6, .int (nI i)), (2, .int ((sitS nj n_kd n_ag st wl dn n_fr n_we n_mi s0 (prm nc k) nc).2.2.2.2.1)), (0, .ref (b 0)), (1, .int 1)] dX5_findOrder_104 (by decide) rfl ?_
                  refine v_goto C 9 dX5_findOrder_105 (by decide) ?_
                  have hnx := prm_some (by omega) hnc1 hk hn
                  refine v_perm (ws' := [oN b n_fa n_tr n_mi (nI nj) (nI nc) (nI wl) n_at n_rm n_rj n_rc nw_9 ov_10 (nI nc) n_rd, ia (b 9) cI 5 n_kd, ia (b 10) cI 5 n_ag, ia (b 11) cB 5 n_hS, ia (b 12) cB 5 n_iS, ia (b 26) cB 5 iE_13, ia (b 13) cI 5 n_de, ia (b 14) cI 5 n_fr, ia (b 24) cI 5 ho_11, ia (b 25) cI 6 vd_12, ia (b 28) cI 5 od2, ia (b 15) cI 5 n_we, ia (b 29) cI 5 (tbF rw1 fo1 nc)]) [11, 0, 1, 2, 3, 4, 5, 6, 7, 8, 12, 9, 10] (by decide) rfl ?_
                  refine v_loc [0, 2, 3, 4] (lv' := [(3, .int 1), (2, .int ((sitS nj n_kd n_ag st wl dn n_fr n_we n_mi s0 (prm nc k) nc).2.2.2.2.1)), (0, .ref (b 0)), (1, .int 1)]) rfl ?_
                  exact ihn_5 (k + 1) ((sitS nj n_kd n_ag st wl dn n_fr n_we n_mi s0 (prm nc k) nc).2.2.2.2.1) (1 * (fun kx => (sitS nj n_kd n_ag st wl dn n_fr n_we n_mi s0 (prm nc kx) nc).2.2.2.2.1) k) k nw_9 ov_10 ho_11 vd_12 iE_13 od2 (tbF rw1 fo1 nc) (by omega) hnx.1 hF (fun p hp => by rw [hod2 p hp, hnx.2 p hp]) (Or.inr ⟨by omega, rfl, rfl, by omega, fun p hp => by rw [tbF_in hp, hod p hp]⟩)
              · have nc37 : i < nc := nI_ltD c37 (by omega)
                refine v_aload_n C dX5_findOrder_80 3 rfl ?_
                refine v_get C f_X5_59 dX5_findOrder_81 0 rfl rfl ?_
                refine v_iload C dX5_findOrder_84 0 rfl ?_
                refine v_aload_n C dX5_findOrder_86 3 rfl ?_
                refine v_get C f_X5_56 dX5_findOrder_87 0 rfl rfl ?_
                refine v_iload C dX5_findOrder_90 0 rfl ?_
                refine v_ialdN C dX5_findOrder_92 10 rfl i rfl (by omega) (by decide) ?_
                refine v_iastN C [oN b n_fa n_tr n_mi (nI nj) (nI nc) (nI wl) n_at n_rm n_rj n_rc nw_9 ov_10 (nI nc) n_rd, ia (b 9) cI 5 n_kd, ia (b 10) cI 5 n_ag, ia (b 11) cB 5 n_hS, ia (b 12) cB 5 n_iS, ia (b 26) cB 5 iE_13, ia (b 13) cI 5 n_de, ia (b 14) cI 5 n_fr, ia (b 24) cI 5 ho_11, ia (b 25) cI 6 vd_12, ia (b 28) cI 5 rw1, ia (b 15) cI 5 n_we, ia (b 29) cI 5 (upd (tbF rw1 fo1 i) i (rw1 i))] dX5_findOrder_93 12 rfl i rfl (by omega) (by decide) rfl ?_
                refine v_ws0 [oN b n_fa n_tr n_mi (nI nj) (nI nc) (nI wl) n_at n_rm n_rj n_rc nw_9 ov_10 (nI nc) n_rd, ia (b 9) cI 5 n_kd, ia (b 10) cI 5 n_ag, ia (b 11) cB 5 n_hS, ia (b 12) cB 5 n_iS, ia (b 26) cB 5 iE_13, ia (b 13) cI 5 n_de, ia (b 14) cI 5 n_fr, ia (b 24) cI 5 ho_11, ia (b 25) cI 6 vd_12, ia (b 28) cI 5 rw1, ia (b 15) cI 5 n_we, ia (b 29) cI 5 (tbF rw1 fo1 (i + 1))] (by rw [← tbF_s rw1]) ?_
                refine v_iinc C (nI (i + 1)) [(6, .int (nI (i + 1))), (2, .int ((sitS nj n_kd n_ag st wl dn n_fr n_we n_mi s0 (prm nc k) nc).2.2.2.2.1)), (3, .int 1), (0, .ref (b 0)), (1, .int 1)] 0 dX5_findOrder_94 rfl (nI_inc _) (by decide) rfl ?_
                refine v_goto C 71 dX5_findOrder_97 (by decide) ?_
                exact ihn_36 (i + 1) (by omega) (by omega)
          refine v_loc [0, 1, 4, 5, 6] (lv' := [(6, .int 0), (2, .int ((sitS nj n_kd n_ag st wl dn n_fr n_we n_mi s0 (prm nc k) nc).2.2.2.2.1)), (3, .int 1), (0, .ref (b 0)), (1, .int 1)]) rfl ?_
          exact lq (nc - 0 + 1) 0 (by omega) (by omega)
  exact lp (fct nc - 0 + 1) 0 (-9) (-1000) 0 n_nw n_ov n_ho n_vd n_iE (tbF nI n_rw nc) n_fo (by omega) (fct_pos nc (by omega)) rfl (fun p hp => by rw [tbF_in hp, prm_0 nc (by omega) p hp]) (Or.inl ⟨rfl, rfl⟩)
set_option maxHeartbeats 4000000 in
set_option maxRecDepth 100000 in
theorem m_X5_order1 {l : Launch} {D : va_G} {cI cB cS : ClassId} (b : Nat → Nat) (nj nc wl s0 st nr : Nat) (dn : Nat → Nat) (n_fa : Int32) (n_tr : Int32) (n_mi : Int32) (n_at : Int32) (n_rm : Int32) (n_rj : Int32) (n_rc : Int32) (n_nw : Int32) (n_ov : Int32) (n_rl : Int32) (n_kd : Nat → Int32) (n_ag : Nat → Int32) (n_hS : Nat → Int32) (n_iS : Nat → Int32) (n_iE : Nat → Int32) (n_de : Nat → Int32) (n_fr : Nat → Int32) (n_ho : Nat → Int32) (n_vd : Nat → Int32) (n_rw : Nat → Int32) (n_we : Nat → Int32) (n_fo : Nat → Int32) (k : Int32) (hnj : nj ≤ 5) (hnc : nc ≤ 5) (hwl : wl < 64) (hs0 : s0 < 2 ^ nj) (hst2 : st < 2 ^ nj) (hp5 : 2 ^ nj ≤ 32) (hnr : nr ≤ 8) (hhS : ∀ j, j < nj → n_hS j = bA s0 j) (hiS : ∀ j, j < nj → n_iS j = bA st j) (hde : ∀ c, c < nc → n_de c = nI (dn c) ∧ dn c < 6) (hwe : ∀ c, c < nc → 0 ≤ (n_we c).toInt ∧ (n_we c).toInt ≤ 9) : Mi l yX5_order cX5_order 4 (some .int) 6 139 D cI cB cS [.ref (b 0), .int k, .int 1] [oN b n_fa n_tr n_mi (nI nj) (nI nc) (nI wl) n_at n_rm n_rj n_rc n_nw n_ov n_rl (nI nr), ia (b 9) cI 5 n_kd, ia (b 10) cI 5 n_ag, ia (b 11) cB 5 n_hS, ia (b 12) cB 5 n_iS, ia (b 26) cB 5 n_iE, ia (b 13) cI 5 n_de, ia (b 14) cI 5 n_fr, ia (b 24) cI 5 n_ho, ia (b 25) cI 6 n_vd, ia (b 28) cI 5 n_rw, ia (b 15) cI 5 n_we, ia (b 29) cI 5 n_fo] (fun r w => ∃ (nw' : Int32) (ov' : Int32) (ho' : Nat → Int32) (vd' : Nat → Int32) (iE' : Nat → Int32) (rl' : Int32) (rw' : Nat → Int32) (fo' : Nat → Int32), r = hoF (fun kx => (sitS nj n_kd n_ag st wl dn n_fr n_we n_mi s0 (prm nc kx) nc).2.2.2.2.1) nc 1 k ∧ w = [oN b n_fa n_tr n_mi (nI nj) (nI nc) (nI wl) n_at n_rm n_rj n_rc nw' ov' rl' (nI nr), ia (b 9) cI 5 n_kd, ia (b 10) cI 5 n_ag, ia (b 11) cB 5 n_hS, ia (b 12) cB 5 n_iS, ia (b 26) cB 5 iE', ia (b 13) cI 5 n_de, ia (b 14) cI 5 n_fr, ia (b 24) cI 5 ho', ia (b 25) cI 6 vd', ia (b 28) cI 5 rw', ia (b 15) cI 5 n_we, ia (b 29) cI 5 fo']) := by
  refine Mi.of (by decide) (Nat.le_of_ble_eq_true rfl) ?_
  intro zp ze zs zm zb zt zc zz zA hA C hnm
  refine v_lv0 [(0, .ref (b 0)), (1, .int k), (2, .int 1)] rfl ?_
  refine v_iload_n C dX5_order_0 1 rfl ?_
  refine v_iconst C (-1) dX5_order_1 (by decide) ?_
  refine v_icmp_ge C 7 dX5_order_2 (by decide) (fun c1 => ?_) (fun c1 => ?_)
  · refine v_aload_n C dX5_order_7 0 rfl ?_
    refine v_get C f_X5_81 dX5_order_8 0 rfl rfl ?_
    refine v_if_ne C 17 dX5_order_11 (by decide) (fun c2 => ?_) (fun c2 => ?_)
    · have nc2 : nc ≠ 0 := fun q => c2 (by rw [q] <;> rfl)
      have zc3 : ¬ nI nc ≤ 0 := by rw [nc0 hnc]; exact nc2
      have hnc1 : 1 ≤ nc := by omega
      refine v_aload_n C dX5_order_17 0 rfl ?_
      refine v_iload_n C dX5_order_18 2 rfl ?_
      refine v_callMi C l_X5_194 (m_X5_findOrder1 b wl nj nc s0 st dn n_fa n_tr n_mi n_at n_rm n_rj n_rc n_nw n_ov n_rl (nI nr) n_kd n_ag n_hS n_iS n_iE n_de n_fr n_ho n_vd n_rw n_we n_fo (by assumption) (by assumption) (by assumption) (by assumption) (by assumption) (by assumption) (by assumption) (by assumption) (hv1 hnc (se_bd (L := nc) hwe (fun p hp => by rw [prm_0 nc (by omega) p hp]; exact hp) hnc nc (Nat.le_refl nc)))) (by decide) dX5_order_19 [0, 1, 2, 3, 4, 5, 6, 7, 8, 9, 10, 11, 12] [] (wr := []) (by decide) rfl rfl (by decide) (by decide) 0 rfl rfl rfl (rest := []) rfl (Nat.le_of_ble_eq_true rfl) (by decide) (fun r6 w4 h5 => ?_)
      obtain ⟨nw_7, ov_8, ho_9, vd_10, iE_11, rl_12, rw_13, fo_14, rfl, rfl, hb15⟩ := h5
      refine v_ws0 [oN b n_fa n_tr n_mi (nI nj) (nI nc) (nI wl) n_at n_rm n_rj n_rc nw_7 ov_8 rl_12 (nI nr), ia (b 9) cI 5 n_kd, ia (b 10) cI 5 n_ag, ia (b 11) cB 5 n_hS, ia (b 12) cB 5 n_iS, ia (b 26) cB 5 iE_11, ia (b 13) cI 5 n_de, ia (b 14) cI 5 n_fr, ia (b 24) cI 5 ho_9, ia (b 25) cI 6 vd_10, ia (b 28) cI 5 rw_13, ia (b 15) cI 5 n_we, ia (b 29) cI 5 fo_14] rfl ?_
      refine v_istore_n C [(3, .int (1 * (fhS (fun kx => (sitS nj n_kd n_ag st wl dn n_fr n_we n_mi s0 (prm nc kx) nc).2.2.2.2.1) 1 (fct nc)).1)), (0, .ref (b 0)), (1, .int k), (2, .int 1)] dX5_order_22 (by decide) rfl ?_
      refine v_iload_n C dX5_order_23 2 rfl ?_
      refine v_iconst C (-1) dX5_order_24 (by decide) ?_
      refine v_icmp_ne C 32 dX5_order_25 (by decide) (fun c16 => ?_) (fun c16 => ?_)
      · refine v_iload_n C dX5_order_32 2 rfl ?_
        refine v_aload_n C dX5_order_33 1 rfl ?_
        refine v_get C f_X5_81 dX5_order_34 0 rfl rfl ?_
        refine v_icmp_ge C 49 dX5_order_37 (by decide) (fun c17 => ?_) (fun c17 => ?_)
        · refine v_bipush C (-9) dX5_order_49 (by decide) ?_
          exact v_reti C hA dX5_order_51 rfl (⟨_, _, _, _, _, _, _, _, by rw [hoF, if_pos c1, if_neg zc3, if_neg (Int32.not_lt.mpr c17)], rfl⟩)
        · refine v_aload_n C dX5_order_40 1 rfl ?_
          refine v_get C f_X5_59 dX5_order_41 0 rfl rfl ?_
          refine v_iload_n C dX5_order_44 2 rfl ?_
          have hk0 : 0 ≤ k := m1_le c1 c16
          obtain ⟨kN, hkN, rfl⟩ := ix_of (by omega) hk0 (Int32.not_le.mp c17)
          have zkN : (nI kN).toNatClampNeg = kN := nI_clamp (by omega)
          refine v_ialdN C dX5_order_45 12 rfl kN rfl (by omega) (by decide) ?_
          refine v_eqi (nI (prm nc (fhS (fun kx => (sitS nj n_kd n_ag st wl dn n_fr n_we n_mi s0 (prm nc kx) nc).2.2.2.2.1) 1 (fct nc)).2 kN)) (hb15 kN hkN) ?_
          refine v_goto C 51 dX5_order_46 (by decide) ?_
          exact v_reti C hA dX5_order_51 rfl (⟨_, _, _, _, _, _, _, _, by rw [hoF, if_pos c1, if_neg zc3, if_pos (Int32.not_le.mp c17), if_pos hk0, zkN], rfl⟩)
      · refine v_iload_n C dX5_order_28 0 rfl ?_
        refine v_goto C 51 dX5_order_29 (by decide) ?_
        exact v_reti C hA dX5_order_51 rfl (⟨_, _, _, _, _, _, _, _, by rw [hoF, if_pos c1, if_neg zc3, if_pos (by rw [c16]; exact m1_lt (by omega)), if_neg (by rw [c16]; decide)], rfl⟩)
    · have nc2 : nc = 0 := nI_eqP c2 (by omega) (by omega)
      have zc18 : nI nc ≤ 0 := by rw [nc0 hnc]; exact nc2
      refine v_bipush C (-3) dX5_order_14 (by decide) ?_
      exact v_reti C hA dX5_order_16 rfl (⟨_, _, _, _, _, _, _, _, by rw [hoF, if_pos c1, if_pos zc18], rfl⟩)
  · refine v_iconst C (-1) dX5_order_5 (by decide) ?_
    exact v_reti C hA dX5_order_6 rfl (⟨_, _, _, _, _, _, _, _, by rw [hoF, if_neg c1], rfl⟩)
set_option maxHeartbeats 4000000 in
set_option maxRecDepth 100000 in
theorem m_X5_most {l : Launch} {D : va_G} {cI cB cS : ClassId} (b : Nat → Nat) (nj nc wl s0 st nr : Nat) (dn : Nat → Nat) (n_fa : Int32) (n_tr : Int32) (n_mi : Int32) (n_at : Int32) (n_rm : Int32) (n_rj : Int32) (n_rc : Int32) (n_nw : Int32) (n_ov : Int32) (n_rl : Int32) (n_kd : Nat → Int32) (n_ag : Nat → Int32) (n_hS : Nat → Int32) (n_iS : Nat → Int32) (n_iE : Nat → Int32) (n_de : Nat → Int32) (n_fr : Nat → Int32) (n_ho : Nat → Int32) (n_vd : Nat → Int32) (n_rw : Nat → Int32) (n_we : Nat → Int32) (n_fo : Nat → Int32) (k : Int32) (hnj : nj ≤ 5) (hnc : nc ≤ 5) (hwl : wl < 64) (hs0 : s0 < 2 ^ nj) (hst2 : st < 2 ^ nj) (hp5 : 2 ^ nj ≤ 32) (hnr : nr ≤ 8) (hhS : ∀ j, j < nj → n_hS j = bA s0 j) (hiS : ∀ j, j < nj → n_iS j = bA st j) (hde : ∀ c, c < nc → n_de c = nI (dn c) ∧ dn c < 6) (hwe : ∀ c, c < nc → 0 ≤ (n_we c).toInt ∧ (n_we c).toInt ≤ 9) : Mi l yX5_most cX5_most 2 (some .int) 7 162 D cI cB cS [.ref (b 0), .int k] [oN b n_fa n_tr n_mi (nI nj) (nI nc) (nI wl) n_at n_rm n_rj n_rc n_nw n_ov n_rl (nI nr), ia (b 9) cI 5 n_kd, ia (b 10) cI 5 n_ag, ia (b 11) cB 5 n_hS, ia (b 12) cB 5 n_iS, ia (b 26) cB 5 n_iE, ia (b 13) cI 5 n_de, ia (b 14) cI 5 n_fr, ia (b 24) cI 5 n_ho, ia (b 25) cI 6 n_vd, ia (b 28) cI 5 n_rw, ia (b 15) cI 5 n_we, ia (b 29) cI 5 n_fo] (fun r w => ∃ (nw' : Int32) (ov' : Int32) (ho' : Nat → Int32) (vd' : Nat → Int32) (iE' : Nat → Int32) (rl' : Int32) (rw' : Nat → Int32) (fo' : Nat → Int32), r = hoF (fun kx => (sitS nj n_kd n_ag st wl dn n_fr n_we n_mi s0 (prm nc kx) nc).2.2.2.2.1) nc 1 k ∧ w = [oN b n_fa n_tr n_mi (nI nj) (nI nc) (nI wl) n_at n_rm n_rj n_rc nw' ov' rl' (nI nr), ia (b 9) cI 5 n_kd, ia (b 10) cI 5 n_ag, ia (b 11) cB 5 n_hS, ia (b 12) cB 5 n_iS, ia (b 26) cB 5 iE', ia (b 13) cI 5 n_de, ia (b 14) cI 5 n_fr, ia (b 24) cI 5 ho', ia (b 25) cI 6 vd', ia (b 28) cI 5 rw', ia (b 15) cI 5 n_we, ia (b 29) cI 5 fo']) := by
  refine Mi.of (by decide) (Nat.le_of_ble_eq_true rfl) ?_
  intro zp ze zs zm zb zt zc zz zA hA C hnm
  refine v_lv0 [(0, .ref (b 0)), (1, .int k)] rfl ?_
  refine v_aload_n C dX5_most_0 0 rfl ?_
  refine v_iload_n C dX5_most_1 1 rfl ?_
  refine v_iconst C 1 dX5_most_2 (by decide) ?_
  refine v_callMi C l_X5_198 (m_X5_order1 b nj nc wl s0 st nr dn n_fa n_tr n_mi n_at n_rm n_rj n_rc n_nw n_ov n_rl n_kd n_ag n_hS n_iS n_iE n_de n_fr n_ho n_vd n_rw n_we n_fo k (by assumption) (by assumption) (by assumption) (by assumption) (by assumption) (by assumption) (by assumption) (by assumption) (by assumption) (by assumption) (by assumption)) (by decide) dX5_most_3 [0, 1, 2, 3, 4, 5, 6, 7, 8, 9, 10, 11, 12] [] (wr := []) (by decide) rfl rfl (by decide) (by decide) 0 rfl rfl rfl (rest := []) rfl (Nat.le_of_ble_eq_true rfl) (by decide) (fun r3 w1 h2 => ?_)
  obtain ⟨nw'_4, ov'_5, ho'_6, vd'_7, iE'_8, rl'_9, rw'_10, fo'_11, rfl, rfl⟩ := h2
  refine v_ws0 [oN b n_fa n_tr n_mi (nI nj) (nI nc) (nI wl) n_at n_rm n_rj n_rc nw'_4 ov'_5 rl'_9 (nI nr), ia (b 9) cI 5 n_kd, ia (b 10) cI 5 n_ag, ia (b 11) cB 5 n_hS, ia (b 12) cB 5 n_iS, ia (b 26) cB 5 iE'_8, ia (b 13) cI 5 n_de, ia (b 14) cI 5 n_fr, ia (b 24) cI 5 ho'_6, ia (b 25) cI 6 vd'_7, ia (b 28) cI 5 rw'_10, ia (b 15) cI 5 n_we, ia (b 29) cI 5 fo'_11] rfl ?_
  exact v_reti C hA dX5_most_6 rfl (⟨_, _, _, _, _, _, _, _, rfl, rfl⟩)
set_option maxHeartbeats 4000000 in
set_option maxRecDepth 100000 in
theorem m_X5_findOrder0 {l : Launch} {D : va_G} {cI cB cS : ClassId} (b : Nat → Nat) (wl nj nc s0 st : Nat) (dn : Nat → Nat) (n_fa : Int32) (n_tr : Int32) (n_mi : Int32) (n_at : Int32) (n_rm : Int32) (n_rj : Int32) (n_rc : Int32) (n_nw : Int32) (n_ov : Int32) (n_rl : Int32) (n_rd : Int32) (n_kd : Nat → Int32) (n_ag : Nat → Int32) (n_hS : Nat → Int32) (n_iS : Nat → Int32) (n_iE : Nat → Int32) (n_de : Nat → Int32) (n_fr : Nat → Int32) (n_ho : Nat → Int32) (n_vd : Nat → Int32) (n_rw : Nat → Int32) (n_we : Nat → Int32) (n_fo : Nat → Int32) (hwl : wl < 64) (hnc : nc ≤ 5) (hnj : nj ≤ 5) (hhS : ∀ j, j < nj → n_hS j = bA s0 j) (hiS : ∀ j, j < nj → n_iS j = bA st j) (hde : ∀ c, c < nc → n_de c = nI (dn c) ∧ dn c < 6) (hnc1 : 1 ≤ nc) (hwe : ∀ c, c < nc → 0 ≤ (n_we c).toInt ∧ (n_we c).toInt ≤ 9) (hv : ¬ (-1) * (fun kx => (sitS nj n_kd n_ag st wl dn n_fr n_we n_mi s0 (prm nc kx) nc).2.2.2.2.1) 0 ≤ -1000) : Mi l yX5_findOrder cX5_findOrder 7 (some .int) 5 113 D cI cB cS [.ref (b 0), .int 0] [oN b n_fa n_tr n_mi (nI nj) (nI nc) (nI wl) n_at n_rm n_rj n_rc n_nw n_ov n_rl n_rd, ia (b 9) cI 5 n_kd, ia (b 10) cI 5 n_ag, ia (b 11) cB 5 n_hS, ia (b 12) cB 5 n_iS, ia (b 26) cB 5 n_iE, ia (b 13) cI 5 n_de, ia (b 14) cI 5 n_fr, ia (b 24) cI 5 n_ho, ia (b 25) cI 6 n_vd, ia (b 28) cI 5 n_rw, ia (b 15) cI 5 n_we, ia (b 29) cI 5 n_fo] (fun r w => ∃ (nw' : Int32) (ov' : Int32) (ho' : Nat → Int32) (vd' : Nat → Int32) (iE' : Nat → Int32) (rl' : Int32) (rw' : Nat → Int32) (fo' : Nat → Int32), r = (-1) * (fhS (fun kx => (sitS nj n_kd n_ag st wl dn n_fr n_we n_mi s0 (prm nc kx) nc).2.2.2.2.1) (-1) (fct nc)).1 ∧ w = [oN b n_fa n_tr n_mi (nI nj) (nI nc) (nI wl) n_at n_rm n_rj n_rc nw' ov' rl' n_rd, ia (b 9) cI 5 n_kd, ia (b 10) cI 5 n_ag, ia (b 11) cB 5 n_hS, ia (b 12) cB 5 n_iS, ia (b 26) cB 5 iE', ia (b 13) cI 5 n_de, ia (b 14) cI 5 n_fr, ia (b 24) cI 5 ho', ia (b 25) cI 6 vd', ia (b 28) cI 5 rw', ia (b 15) cI 5 n_we, ia (b 29) cI 5 fo'] ∧ ∀ p, p < nc → fo' p = nI (prm nc (fhS (fun kx => (sitS nj n_kd n_ag st wl dn n_fr n_we n_mi s0 (prm nc kx) nc).2.2.2.2.1) (-1) (fct nc)).2 p)) := by
  refine Mi.of (by decide) (Nat.le_of_ble_eq_true rfl) ?_
  intro zp ze zs zm zb zt zc zz zA hA C hnm
  refine v_lv0 [(0, .ref (b 0)), (1, .int 0)] rfl ?_
  refine v_bipush C (-9) dX5_findOrder_0 (by decide) ?_
  refine v_istore_n C [(2, .int (-9)), (0, .ref (b 0)), (1, .int 0)] dX5_findOrder_2 (by decide) rfl ?_
  refine v_iconst C 1 dX5_findOrder_3 (by decide) ?_
  refine v_istore_n C [(3, .int 1), (2, .int (-9)), (0, .ref (b 0)), (1, .int 0)] dX5_findOrder_4 (by decide) rfl ?_
  refine v_aload_n C dX5_findOrder_5 2 rfl ?_
  refine v_callMv C l_X5_173 (m_X5_layNumbers b nc n_fa n_tr n_mi (nI nj) (nI wl) n_at n_rm n_rj n_rc n_nw n_ov n_rl n_rd n_rw (by assumption)) (by decide) dX5_findOrder_6 [0, 10] [1, 2, 3, 4, 5, 6, 7, 8, 9, 11, 12] (wr := [ia (b 9) cI 5 n_kd, ia (b 10) cI 5 n_ag, ia (b 11) cB 5 n_hS, ia (b 12) cB 5 n_iS, ia (b 26) cB 5 n_iE, ia (b 13) cI 5 n_de, ia (b 14) cI 5 n_fr, ia (b 24) cI 5 n_ho, ia (b 25) cI 6 n_vd, ia (b 15) cI 5 n_we, ia (b 29) cI 5 n_fo]) (by decide) rfl rfl (by decide) (by decide) 0 rfl rfl rfl (rest := []) rfl (Nat.le_of_ble_eq_true rfl) (by decide) (fun w1 h2 => ?_)
  subst h2
  refine v_ws0 [ia (b 9) cI 5 n_kd, ia (b 10) cI 5 n_ag, ia (b 11) cB 5 n_hS, ia (b 12) cB 5 n_iS, ia (b 26) cB 5 n_iE, ia (b 13) cI 5 n_de, ia (b 14) cI 5 n_fr, ia (b 24) cI 5 n_ho, ia (b 25) cI 6 n_vd, ia (b 15) cI 5 n_we, ia (b 29) cI 5 n_fo, oN b n_fa n_tr n_mi (nI nj) (nI nc) (nI wl) n_at n_rm n_rj n_rc n_nw n_ov (nI nc) n_rd, ia (b 28) cI 5 (tbF nI n_rw nc)] rfl ?_
  refine v_perm (ws' := [oN b n_fa n_tr n_mi (nI nj) (nI nc) (nI wl) n_at n_rm n_rj n_rc n_nw n_ov (nI nc) n_rd, ia (b 9) cI 5 n_kd, ia (b 10) cI 5 n_ag, ia (b 11) cB 5 n_hS, ia (b 12) cB 5 n_iS, ia (b 26) cB 5 n_iE, ia (b 13) cI 5 n_de, ia (b 14) cI 5 n_fr, ia (b 24) cI 5 n_ho, ia (b 25) cI 6 n_vd, ia (b 28) cI 5 (tbF nI n_rw nc), ia (b 15) cI 5 n_we, ia (b 29) cI 5 n_fo]) [11, 0, 1, 2, 3, 4, 5, 6, 7, 8, 12, 9, 10] (by decide) rfl ?_
  have hvb := fun (kx : Nat) (hkx : kx < fct nc) => se_bd (nj := nj) (tk := n_kd) (ag := n_ag) (st := st) (lw := wl) (dn := dn) (ta := n_fr) (si := n_mi) (un := s0) (o := prm nc kx) (L := nc) hwe (fun p hp => prm_lt nc (by omega) kx hkx p hp) hnc nc (Nat.le_refl nc)
  have lp : ∀ (n_5 : Nat) (k : Nat) (be : Int32) (hi : Int32) (bk : Nat) (nw1 : Int32) (ov1 : Int32) (ho1 : Nat → Int32) (vd1 : Nat → Int32) (iE1 : Nat → Int32) (rw1 : Nat → Int32) (fo1 : Nat → Int32), fct nc - k < n_5 → (k < fct nc) → (fhS (fun kx => (sitS nj n_kd n_ag st wl dn n_fr n_we n_mi s0 (prm nc kx) nc).2.2.2.2.1) (-1) k = (hi, bk)) → (∀ p, p < nc → rw1 p = nI (prm nc k p)) → (foI (fun kx => (sitS nj n_kd n_ag st wl dn n_fr n_we n_mi s0 (prm nc kx) nc).2.2.2.2.1) (-1) nc k be hi bk fo1) → V zp l ze (rmOf 5 113) zs zm [.ref (b 0), .int 0].toArray zb zt zc D (IM zA zs) (QMi zb [.ref (b 0), .int 0].toArray zs D cI cB cS [oN b n_fa n_tr n_mi (nI nj) (nI nc) (nI wl) n_at n_rm n_rj n_rc n_nw n_ov n_rl n_rd, ia (b 9) cI 5 n_kd, ia (b 10) cI 5 n_ag, ia (b 11) cB 5 n_hS, ia (b 12) cB 5 n_iS, ia (b 26) cB 5 n_iE, ia (b 13) cI 5 n_de, ia (b 14) cI 5 n_fr, ia (b 24) cI 5 n_ho, ia (b 25) cI 6 n_vd, ia (b 28) cI 5 n_rw, ia (b 15) cI 5 n_we, ia (b 29) cI 5 n_fo] zz (fun r w => ∃ (nw' : Int32) (ov' : Int32) (ho' : Nat → Int32) (vd' : Nat → Int32) (iE' : Nat → Int32) (rl' : Int32) (rw' : Nat → Int32) (fo' : Nat → Int32), r = (-1) * (fhS (fun kx => (sitS nj n_kd n_ag st wl dn n_fr n_we n_mi s0 (prm nc kx) nc).2.2.2.2.1) (-1) (fct nc)).1 ∧ w = [oN b n_fa n_tr n_mi (nI nj) (nI nc) (nI wl) n_at n_rm n_rj n_rc nw' ov' rl' n_rd, ia (b 9) cI 5 n_kd, ia (b 10) cI 5 n_ag, ia (b 11) cB 5 n_hS, ia (b 12) cB 5 n_iS, ia (b 26) cB 5 iE', ia (b 13) cI 5 n_de, ia (b 14) cI 5 n_fr, ia (b 24) cI 5 ho', ia (b 25) cI 6 vd', ia (b 28) cI 5 rw', ia (b 15) cI 5 n_we, ia (b 29) cI 5 fo'] ∧ ∀ p, p < nc → fo' p = nI (prm nc (fhS (fun kx => (sitS nj n_kd n_ag st wl dn n_fr n_we n_mi s0 (prm nc kx) nc).2.2.2.2.1) (-1) (fct nc)).2 p))) 0 0 7 [oN b n_fa n_tr n_mi (nI nj) (nI nc) (nI wl) n_at n_rm n_rj n_rc nw1 ov1 (nI nc) n_rd, ia (b 9) cI 5 n_kd, ia (b 10) cI 5 n_ag, ia (b 11) cB 5 n_hS, ia (b 12) cB 5 n_iS, ia (b 26) cB 5 iE1, ia (b 13) cI 5 n_de, ia (b 14) cI 5 n_fr, ia (b 24) cI 5 ho1, ia (b 25) cI 6 vd1, ia (b 28) cI 5 rw1, ia (b 15) cI 5 n_we, ia (b 29) cI 5 fo1] [(3, .int 1), (2, .int be), (0, .ref (b 0)), (1, .int 0)] 9 [] := by
    intro n_5
    induction n_5 with
    | zero => intro k be hi bk nw1 ov1 ho1 vd1 iE1 rw1 fo1 b4; exact absurd b4 (by omega)
    | succ n_5 ihn_5 =>
      intro k be hi bk nw1 ov1 ho1 vd1 iE1 rw1 fo1 b4 hk hfh hod hbe
      refine v_iload_n C dX5_findOrder_9 0 rfl ?_
      refine v_if_eq C 108 dX5_findOrder_10 (by decide) (fun h => absurd h (by decide)) (fun _ => ?_)
      refine v_aload_n C dX5_findOrder_13 2 rfl ?_
      refine v_callMv C l_X5_176 (m_X5_goRow b wl nj nc s0 st nc (prm nc k) dn n_we n_fa n_tr n_mi n_at n_rm n_rj n_rc nw1 ov1 n_rd n_kd n_ag n_hS n_iS iE1 n_de n_fr ho1 vd1 rw1 (by assumption) (by assumption) (by assumption) (by assumption) (by assumption) (by assumption) hnc (fun p hp => ⟨hod p hp, prm_lt nc (by omega) k hk p hp⟩)) (by decide) dX5_findOrder_14 [0, 1, 2, 3, 4, 5, 6, 7, 8, 9, 10] [11, 12] (wr := [ia (b 15) cI 5 n_we, ia (b 29) cI 5 fo1]) (by decide) rfl rfl (by decide) (by decide) 0 rfl rfl rfl (rest := []) rfl (Nat.le_of_ble_eq_true rfl) (by decide) (fun w6 h7 => ?_)
      obtain ⟨nw_9, ov_10, ho_11, vd_12, iE_13, rfl, hs14⟩ := h7
      refine v_ws0 [ia (b 15) cI 5 n_we, ia (b 29) cI 5 fo1, oN b n_fa n_tr n_mi (nI nj) (nI nc) (nI wl) n_at n_rm n_rj n_rc nw_9 ov_10 (nI nc) n_rd, ia (b 9) cI 5 n_kd, ia (b 10) cI 5 n_ag, ia (b 11) cB 5 n_hS, ia (b 12) cB 5 n_iS, ia (b 26) cB 5 iE_13, ia (b 13) cI 5 n_de, ia (b 14) cI 5 n_fr, ia (b 24) cI 5 ho_11, ia (b 25) cI 6 vd_12, ia (b 28) cI 5 rw1] rfl ?_
      refine v_aload_n C dX5_findOrder_17 2 rfl ?_
      refine v_callRi C l_X5_179 (m_X5_sentenced b nc n_fa n_tr n_mi (nI nj) (nI wl) n_at n_rm n_rj n_rc nw_9 ov_10 (nI nc) n_rd ho_11 n_we (by assumption)) (by decide) dX5_findOrder_18 [2, 10, 0] rfl 2 rfl rfl rfl (rest := []) rfl (Nat.le_of_ble_eq_true rfl) (by decide) (fun r15 h16 => ?_)
      subst h16
      refine v_eqi ((sitS nj n_kd n_ag st wl dn n_fr n_we n_mi s0 (prm nc k) nc).2.2.2.2.1) (by rw [seS_cong hs14.2.2.1]; exact (sit_se (fun p hp => prm_lt nc (by omega) k hk p hp) (fun p q hp hq e => prm_inj nc (by omega) k hk p hp q hq e) nc (Nat.le_refl nc)).symm) ?_
      refine v_istore C [(4, .int ((sitS nj n_kd n_ag st wl dn n_fr n_we n_mi s0 (prm nc k) nc).2.2.2.2.1)), (3, .int 1), (2, .int be), (0, .ref (b 0)), (1, .int 0)] dX5_findOrder_21 (by decide) rfl ?_
      refine v_iload_n C dX5_findOrder_23 4 rfl ?_
      refine v_if_eq C 41 dX5_findOrder_24 (by decide) (fun _ => ?_) (fun h => absurd h (by decide))
      refine v_iload C dX5_findOrder_41 0 rfl ?_
      refine v_iload_n C dX5_findOrder_43 2 rfl ?_
      refine v_icmp_ge C 51 dX5_findOrder_44 (by decide) (fun c17 => ?_) (fun c17 => ?_)
      · refine v_iconst C 0 dX5_findOrder_51 (by decide) ?_
        refine v_istore C [(5, .int 0), (4, .int ((sitS nj n_kd n_ag st wl dn n_fr n_we n_mi s0 (prm nc k) nc).2.2.2.2.1)), (3, .int 1), (2, .int be), (0, .ref (b 0)), (1, .int 0)] dX5_findOrder_52 (by decide) rfl ?_
        refine v_iload_n C dX5_findOrder_54 3 rfl ?_
        refine v_bipush C (-9) dX5_findOrder_55 (by decide) ?_
        refine v_icmp_eq C 65 dX5_findOrder_57 (by decide) (fun c18 => ?_) (fun c18 => ?_)
        · have hk0 : k = 0 := fo_zero hbe (fun q => hvb bk q) c18
          have hF : fhS (fun kx => (sitS nj n_kd n_ag st wl dn n_fr n_we n_mi s0 (prm nc kx) nc).2.2.2.2.1) (-1) (k + 1) = ((-1) * (fun kx => (sitS nj n_kd n_ag st wl dn n_fr n_we n_mi s0 (prm nc kx) nc).2.2.2.2.1) k, k) := fo_first hk0 hv
          refine v_iload C dX5_findOrder_65 1 rfl ?_
          refine v_istore_n C [(2, .int ((sitS nj n_kd n_ag st wl dn n_fr n_we n_mi s0 (prm nc k) nc).2.2.2.2.1)), (5, .int 0), (4, .int ((sitS nj n_kd n_ag st wl dn n_fr n_we n_mi s0 (prm nc k) nc).2.2.2.2.1)), (3, .int 1), (0, .ref (b 0)), (1, .int 0)] dX5_findOrder_67 (by decide) rfl ?_
          refine v_iconst C 0 dX5_findOrder_68 (by decide) ?_
          refine v_istore C [(6, .int 0), (2, .int ((sitS nj n_kd n_ag st wl dn n_fr n_we n_mi s0 (prm nc k) nc).2.2.2.2.1)), (5, .int 0), (4, .int ((sitS nj n_kd n_ag st wl dn n_fr n_we n_mi s0 (prm nc k) nc).2.2.2.2.1)), (3, .int 1), (0, .ref (b 0)), (1, .int 0)] dX5_findOrder_69 (by decide) rfl ?_
          refine v_perm (ws' := [oN b n_fa n_tr n_mi (nI nj) (nI nc) (nI wl) n_at n_rm n_rj n_rc nw_9 ov_10 (nI nc) n_rd, ia (b 9) cI 5 n_kd, ia (b 10) cI 5 n_ag, ia (b 11) cB 5 n_hS, ia (b 12) cB 5 n_iS, ia (b 26) cB 5 iE_13, ia (b 13) cI 5 n_de, ia (b 14) cI 5 n_fr, ia (b 24) cI 5 ho_11, ia (b 25) cI 6 vd_12, ia (b 28) cI 5 rw1, ia (b 15) cI 5 n_we, ia (b 29) cI 5 fo1]) [2, 3, 4, 5, 6, 7, 8, 9, 10, 11, 12, 0, 1] (by decide) rfl ?_
          refine v_ws0 [oN b n_fa n_tr n_mi (nI nj) (nI nc) (nI wl) n_at n_rm n_rj n_rc nw_9 ov_10 (nI nc) n_rd, ia (b 9) cI 5 n_kd, ia (b 10) cI 5 n_ag, ia (b 11) cB 5 n_hS, ia (b 12) cB 5 n_iS, ia (b 26) cB 5 iE_13, ia (b 13) cI 5 n_de, ia (b 14) cI 5 n_fr, ia (b 24) cI 5 ho_11, ia (b 25) cI 6 vd_12, ia (b 28) cI 5 rw1, ia (b 15) cI 5 n_we, ia (b 29) cI 5 (tbF rw1 fo1 0)] (by rw [tbF_0]) ?_
          have lq : ∀ (n_20 : Nat) (i : Nat), nc - i < n_20 → (i ≤ nc) → V zp l ze (rmOf 5 113) zs zm [.ref (b 0), .int 0].toArray zb zt zc D (IM zA zs) (QMi zb [.ref (b 0), .int 0].toArray zs D cI cB cS [oN b n_fa n_tr n_mi (nI nj) (nI nc) (nI wl) n_at n_rm n_rj n_rc n_nw n_ov n_rl n_rd, ia (b 9) cI 5 n_kd, ia (b 10) cI 5 n_ag, ia (b 11) cB 5 n_hS, ia (b 12) cB 5 n_iS, ia (b 26) cB 5 n_iE, ia (b 13) cI 5 n_de, ia (b 14) cI 5 n_fr, ia (b 24) cI 5 n_ho, ia (b 25) cI 6 n_vd, ia (b 28) cI 5 n_rw, ia (b 15) cI 5 n_we, ia (b 29) cI 5 n_fo] zz (fun r w => ∃ (nw' : Int32) (ov' : Int32) (ho' : Nat → Int32) (vd' : Nat → Int32) (iE' : Nat → Int32) (rl' : Int32) (rw' : Nat → Int32) (fo' : Nat → Int32), r = (-1) * (fhS (fun kx => (sitS nj n_kd n_ag st wl dn n_fr n_we n_mi s0 (prm nc kx) nc).2.2.2.2.1) (-1) (fct nc)).1 ∧ w = [oN b n_fa n_tr n_mi (nI nj) (nI nc) (nI wl) n_at n_rm n_rj n_rc nw' ov' rl' n_rd, ia (b 9) cI 5 n_kd, ia (b 10) cI 5 n_ag, ia (b 11) cB 5 n_hS, ia (b 12) cB 5 n_iS, ia (b 26) cB 5 iE', ia (b 13) cI 5 n_de, ia (b 14) cI 5 n_fr, ia (b 24) cI 5 ho', ia (b 25) cI 6 vd', ia (b 28) cI 5 rw', ia (b 15) cI 5 n_we, ia (b 29) cI 5 fo'] ∧ ∀ p, p < nc → fo' p = nI (prm nc (fhS (fun kx => (sitS nj n_kd n_ag st wl dn n_fr n_we n_mi s0 (prm nc kx) nc).2.2.2.2.1) (-1) (fct nc)).2 p))) 0 0 7 [oN b n_fa n_tr n_mi (nI nj) (nI nc) (nI wl) n_at n_rm n_rj n_rc nw_9 ov_10 (nI nc) n_rd, ia (b 9) cI 5 n_kd, ia (b 10) cI 5 n_ag, ia (b 11) cB 5 n_hS, ia (b 12) cB 5 n_iS, ia (b 26) cB 5 iE_13, ia (b 13) cI 5 n_de, ia (b 14) cI 5 n_fr, ia (b 24) cI 5 ho_11, ia (b 25) cI 6 vd_12, ia (b 28) cI 5 rw1, ia (b 15) cI 5 n_we, ia (b 29) cI 5 (tbF rw1 fo1 i)] [(6, .int (nI i)), (2, .int ((sitS nj n_kd n_ag st wl dn n_fr n_we n_mi s0 (prm nc k) nc).2.2.2.2.1)), (3, .int 1), (0, .ref (b 0)), (1, .int 0)] 71 [] := by
            intro n_20
            induction n_20 with
            | zero => intro i b19; exact absurd b19 (by omega)
            | succ n_20 ihn_20 =>
              intro i b19 hi2
              refine v_iload C dX5_findOrder_71 0 rfl ?_
              refine v_aload_n C dX5_findOrder_73 3 rfl ?_
              refine v_get C f_X5_81 dX5_findOrder_74 0 rfl rfl ?_
              refine v_icmp_ge C 100 dX5_findOrder_77 (by decide) (fun c21 => ?_) (fun c21 => ?_)
              · have nc21 : nc ≤ i := nI_leD c21 (by omega)
                have hie : i = nc := by omega
                refine v_ws0 [oN b n_fa n_tr n_mi (nI nj) (nI nc) (nI wl) n_at n_rm n_rj n_rc nw_9 ov_10 (nI nc) n_rd, ia (b 9) cI 5 n_kd, ia (b 10) cI 5 n_ag, ia (b 11) cB 5 n_hS, ia (b 12) cB 5 n_iS, ia (b 26) cB 5 iE_13, ia (b 13) cI 5 n_de, ia (b 14) cI 5 n_fr, ia (b 24) cI 5 ho_11, ia (b 25) cI 6 vd_12, ia (b 28) cI 5 rw1, ia (b 15) cI 5 n_we, ia (b 29) cI 5 (tbF rw1 fo1 nc)] (by rw [hie]) ?_
                refine v_aload_n C dX5_findOrder_100 3 rfl ?_
                refine v_callMi C l_X5_190 (m_X5_nextRow b nc (prm nc k) n_fa n_tr n_mi (nI nj) (nI wl) n_at n_rm n_rj n_rc nw_9 ov_10 (nI nc) n_rd rw1 hnc hnc1 hod (fun i hi => by have := prm_lt nc (by omega) k hk i hi; omega)) (by decide) dX5_findOrder_101 [0, 10] [1, 2, 3, 4, 5, 6, 7, 8, 9, 11, 12] (wr := [ia (b 9) cI 5 n_kd, ia (b 10) cI 5 n_ag, ia (b 11) cB 5 n_hS, ia (b 12) cB 5 n_iS, ia (b 26) cB 5 iE_13, ia (b 13) cI 5 n_de, ia (b 14) cI 5 n_fr, ia (b 24) cI 5 ho_11, ia (b 25) cI 6 vd_12, ia (b 15) cI 5 n_we, ia (b 29) cI 5 (tbF rw1 fo1 nc)]) (by decide) rfl rfl (by decide) (by decide) 0 rfl rfl rfl (rest := []) rfl (Nat.le_of_ble_eq_true rfl) (by decide) (fun r24 w22 h23 => ?_)
                rcases h23 with ⟨hn, rfl, rfl⟩ | ⟨g', od2, hn, rfl, rfl, hod2⟩
                · refine v_ws0 [ia (b 9) cI 5 n_kd, ia (b 10) cI 5 n_ag, ia (b 11) cB 5 n_hS, ia (b 12) cB 5 n_iS, ia (b 26) cB 5 iE_13, ia (b 13) cI 5 n_de, ia (b 14) cI 5 n_fr, ia (b 24) cI 5 ho_11, ia (b 25) cI 6 vd_12, ia (b 15) cI 5 n_we, ia (b 29) cI 5 (tbF rw1 fo1 nc), oN b n_fa n_tr n_mi (nI nj) (nI nc) (nI wl) n_at n_rm n_rj n_rc nw_9 ov_10 (nI nc) n_rd, ia (b 28) cI 5 rw1] rfl ?_
                  refine v_istore_n C [(3, .int 0), (6, .int (nI i)), (2, .int ((sitS nj n_kd n_ag st wl dn n_fr n_we n_mi s0 (prm nc k) nc).2.2.2.2.1)), (0, .ref (b 0)), (1, .int 0)] dX5_findOrder_104 (by decide) rfl ?_
                  refine v_goto C 9 dX5_findOrder_105 (by decide) ?_
                  refine v_iload_n C dX5_findOrder_9 0 rfl ?_
                  refine v_if_eq C 108 dX5_findOrder_10 (by decide) (fun _ => ?_) (fun h => absurd h (by decide))
                  refine v_iload_n C dX5_findOrder_108 2 rfl ?_
                  refine v_perm (ws' := [oN b n_fa n_tr n_mi (nI nj) (nI nc) (nI wl) n_at n_rm n_rj n_rc nw_9 ov_10 (nI nc) n_rd, ia (b 9) cI 5 n_kd, ia (b 10) cI 5 n_ag, ia (b 11) cB 5 n_hS, ia (b 12) cB 5 n_iS, ia (b 26) cB 5 iE_13, ia (b 13) cI 5 n_de, ia (b 14) cI 5 n_fr, ia (b 24) cI 5 ho_11, ia (b 25) cI 6 vd_12, ia (b 28) cI 5 rw1, ia (b 15) cI 5 n_we, ia (b 29) cI 5 (tbF rw1 fo1 nc)]) [11, 0, 1, 2, 3, 4, 5, 6, 7, 8, 12, 9, 10] (by decide) rfl ?_
                  exact v_reti C hA dX5_findOrder_109 rfl (have hke := prm_none (by omega) hnc1 hk hn; ⟨_, _, _, _, _, _, _, _, by rw [← hke, hF, sg2_n], rfl, by rw [← hke, hF]; exact (fun p hp => by rw [tbF_in hp, hod p hp])⟩)
                · refine v_ws0 [ia (b 9) cI 5 n_kd, ia (b 10) cI 5 n_ag, ia (b 11) cB 5 n_hS, ia (b 12) cB 5 n_iS, ia (b 26) cB 5 iE_13, ia (b 13) cI 5 n_de, ia (b 14) cI 5 n_fr, ia (b 24) cI 5 ho_11, ia (b 25) cI 6 vd_12, ia (b 15) cI 5 n_we, ia (b 29) cI 5 (tbF rw1 fo1 nc), oN b n_fa n_tr n_mi (nI nj) (nI nc) (nI wl) n_at n_rm n_rj n_rc nw_9 ov_10 (nI nc) n_rd, ia (b 28) cI 5 od2] rfl ?_
                  refine v_istore_n C [(3, .int 1), (6, .int (nI i)), (2, .int ((sitS nj n_kd n_ag st wl dn n_fr n_we n_mi s0 (prm nc k) nc).2.2.2.2.1)), (0, .ref (b 0)), (1, .int 0)] dX5_findOrder_104 (by decide) rfl ?_
                  refine v_goto C 9 dX5_findOrder_105 (by decide) ?_
                  have hnx := prm_some (by omega) hnc1 hk hn
                  refine v_perm (ws' := [oN b n_fa n_tr n_mi (nI nj) (nI nc) (nI wl) n_at n_rm n_rj n_rc nw_9 ov_10 (nI nc) n_rd, ia (b 9) cI 5 n_kd, ia (b 10) cI 5 n_ag, ia (b 11) cB 5 n_hS, ia (b 12) cB 5 n_iS, ia (b 26) cB 5 iE_13, ia (b 13) cI 5 n_de, ia (b 14) cI 5 n_fr, ia (b 24) cI 5 ho_11, ia (b 25) cI 6 vd_12, ia (b 28) cI 5 od2, ia (b 15) cI 5 n_we, ia (b 29) cI 5 (tbF rw1 fo1 nc)]) [11, 0, 1, 2, 3, 4, 5, 6, 7, 8, 12, 9, 10] (by decide) rfl ?_
                  refine v_loc [0, 2, 3, 4] (lv' := [(3, .int 1), (2, .int ((sitS nj n_kd n_ag st wl dn n_fr n_we n_mi s0 (prm nc k) nc).2.2.2.2.1)), (0, .ref (b 0)), (1, .int 0)]) rfl ?_
                  exact ihn_5 (k + 1) ((sitS nj n_kd n_ag st wl dn n_fr n_we n_mi s0 (prm nc k) nc).2.2.2.2.1) ((-1) * (fun kx => (sitS nj n_kd n_ag st wl dn n_fr n_we n_mi s0 (prm nc kx) nc).2.2.2.2.1) k) k nw_9 ov_10 ho_11 vd_12 iE_13 od2 (tbF rw1 fo1 nc) (by omega) hnx.1 hF (fun p hp => by rw [hod2 p hp, hnx.2 p hp]) (Or.inr ⟨by omega, rfl, rfl, by omega, fun p hp => by rw [tbF_in hp, hod p hp]⟩)
              · have nc21 : i < nc := nI_ltD c21 (by omega)
                refine v_aload_n C dX5_findOrder_80 3 rfl ?_
                refine v_get C f_X5_59 dX5_findOrder_81 0 rfl rfl ?_
                refine v_iload C dX5_findOrder_84 0 rfl ?_
                refine v_aload_n C dX5_findOrder_86 3 rfl ?_
                refine v_get C f_X5_56 dX5_findOrder_87 0 rfl rfl ?_
                refine v_iload C dX5_findOrder_90 0 rfl ?_
                refine v_ialdN C dX5_findOrder_92 10 rfl i rfl (by omega) (by decide) ?_
                refine v_iastN C [oN b n_fa n_tr n_mi (nI nj) (nI nc) (nI wl) n_at n_rm n_rj n_rc nw_9 ov_10 (nI nc) n_rd, ia (b 9) cI 5 n_kd, ia (b 10) cI 5 n_ag, ia (b 11) cB 5 n_hS, ia (b 12) cB 5 n_iS, ia (b 26) cB 5 iE_13, ia (b 13) cI 5 n_de, ia (b 14) cI 5 n_fr, ia (b 24) cI 5 ho_11, ia (b 25) cI 6 vd_12, ia (b 28) cI 5 rw1, ia (b 15) cI 5 n_we, ia (b 29) cI 5 (upd (tbF rw1 fo1 i) i (rw1 i))] dX5_findOrder_93 12 rfl i rfl (by omega) (by decide) rfl ?_
                refine v_ws0 [oN b n_fa n_tr n_mi (nI nj) (nI nc) (nI wl) n_at n_rm n_rj n_rc nw_9 ov_10 (nI nc) n_rd, ia (b 9) cI 5 n_kd, ia (b 10) cI 5 n_ag, ia (b 11) cB 5 n_hS, ia (b 12) cB 5 n_iS, ia (b 26) cB 5 iE_13, ia (b 13) cI 5 n_de, ia (b 14) cI 5 n_fr, ia (b 24) cI 5 ho_11, ia (b 25) cI 6 vd_12, ia (b 28) cI 5 rw1, ia (b 15) cI 5 n_we, ia (b 29) cI 5 (tbF rw1 fo1 (i + 1))] (by rw [← tbF_s rw1]) ?_
                refine v_iinc C (nI (i + 1)) [(6, .int (nI (i + 1))), (2, .int ((sitS nj n_kd n_ag st wl dn n_fr n_we n_mi s0 (prm nc k) nc).2.2.2.2.1)), (3, .int 1), (0, .ref (b 0)), (1, .int 0)] 0 dX5_findOrder_94 rfl (nI_inc _) (by decide) rfl ?_
                refine v_goto C 71 dX5_findOrder_97 (by decide) ?_
                exact ihn_20 (i + 1) (by omega) (by omega)
          refine v_loc [0, 1, 4, 5, 6] (lv' := [(6, .int 0), (2, .int ((sitS nj n_kd n_ag st wl dn n_fr n_we n_mi s0 (prm nc k) nc).2.2.2.2.1)), (3, .int 1), (0, .ref (b 0)), (1, .int 0)]) rfl ?_
          exact lq (nc - 0 + 1) 0 (by omega) (by omega)
        · obtain ⟨hkp, hb1, hb2, hb3, hb4⟩ := fo_some hbe c18
          have hF : fhS (fun kx => (sitS nj n_kd n_ag st wl dn n_fr n_we n_mi s0 (prm nc kx) nc).2.2.2.2.1) (-1) (k + 1) = (hi, bk) := by rw [fhS, hfh, if_pos (by rw [hb2]; exact (le_n (hvb k hk) (hvb bk hb3) hnc).mpr (by rw [← hb1]; exact c17))]
          refine v_iload C dX5_findOrder_60 0 rfl ?_
          refine v_if_eq C 100 dX5_findOrder_62 (by decide) (fun _ => ?_) (fun h => absurd h (by decide))
          refine v_aload_n C dX5_findOrder_100 4 rfl ?_
          refine v_callMi C l_X5_190 (m_X5_nextRow b nc (prm nc k) n_fa n_tr n_mi (nI nj) (nI wl) n_at n_rm n_rj n_rc nw_9 ov_10 (nI nc) n_rd rw1 hnc hnc1 hod (fun i hi => by have := prm_lt nc (by omega) k hk i hi; omega)) (by decide) dX5_findOrder_101 [2, 12] [0, 1, 3, 4, 5, 6, 7, 8, 9, 10, 11] (wr := [ia (b 15) cI 5 n_we, ia (b 29) cI 5 fo1, ia (b 9) cI 5 n_kd, ia (b 10) cI 5 n_ag, ia (b 11) cB 5 n_hS, ia (b 12) cB 5 n_iS, ia (b 26) cB 5 iE_13, ia (b 13) cI 5 n_de, ia (b 14) cI 5 n_fr, ia (b 24) cI 5 ho_11, ia (b 25) cI 6 vd_12]) (by decide) rfl rfl (by decide) (by decide) 2 rfl rfl rfl (rest := []) rfl (Nat.le_of_ble_eq_true rfl) (by decide) (fun r27 w25 h26 => ?_)
          rcases h26 with ⟨hn, rfl, rfl⟩ | ⟨g', od2, hn, rfl, rfl, hod2⟩
          · refine v_ws0 [ia (b 15) cI 5 n_we, ia (b 29) cI 5 fo1, ia (b 9) cI 5 n_kd, ia (b 10) cI 5 n_ag, ia (b 11) cB 5 n_hS, ia (b 12) cB 5 n_iS, ia (b 26) cB 5 iE_13, ia (b 13) cI 5 n_de, ia (b 14) cI 5 n_fr, ia (b 24) cI 5 ho_11, ia (b 25) cI 6 vd_12, oN b n_fa n_tr n_mi (nI nj) (nI nc) (nI wl) n_at n_rm n_rj n_rc nw_9 ov_10 (nI nc) n_rd, ia (b 28) cI 5 rw1] rfl ?_
            refine v_istore_n C [(3, .int 0), (5, .int 0), (4, .int ((sitS nj n_kd n_ag st wl dn n_fr n_we n_mi s0 (prm nc k) nc).2.2.2.2.1)), (2, .int be), (0, .ref (b 0)), (1, .int 0)] dX5_findOrder_104 (by decide) rfl ?_
            refine v_goto C 9 dX5_findOrder_105 (by decide) ?_
            refine v_iload_n C dX5_findOrder_9 0 rfl ?_
            refine v_if_eq C 108 dX5_findOrder_10 (by decide) (fun _ => ?_) (fun h => absurd h (by decide))
            refine v_iload_n C dX5_findOrder_108 3 rfl ?_
            refine v_perm (ws' := [oN b n_fa n_tr n_mi (nI nj) (nI nc) (nI wl) n_at n_rm n_rj n_rc nw_9 ov_10 (nI nc) n_rd, ia (b 9) cI 5 n_kd, ia (b 10) cI 5 n_ag, ia (b 11) cB 5 n_hS, ia (b 12) cB 5 n_iS, ia (b 26) cB 5 iE_13, ia (b 13) cI 5 n_de, ia (b 14) cI 5 n_fr, ia (b 24) cI 5 ho_11, ia (b 25) cI 6 vd_12, ia (b 28) cI 5 rw1, ia (b 15) cI 5 n_we, ia (b 29) cI 5 fo1]) [11, 2, 3, 4, 5, 6, 7, 8, 9, 10, 12, 0, 1] (by decide) rfl ?_
            exact v_reti C hA dX5_findOrder_109 rfl (have hke := prm_none (by omega) hnc1 hk hn; ⟨_, _, _, _, _, _, _, _, by rw [← hke, hF, hb2, sg2_n]; exact hb1, rfl, by rw [← hke, hF]; exact hb4⟩)
          · refine v_ws0 [ia (b 15) cI 5 n_we, ia (b 29) cI 5 fo1, ia (b 9) cI 5 n_kd, ia (b 10) cI 5 n_ag, ia (b 11) cB 5 n_hS, ia (b 12) cB 5 n_iS, ia (b 26) cB 5 iE_13, ia (b 13) cI 5 n_de, ia (b 14) cI 5 n_fr, ia (b 24) cI 5 ho_11, ia (b 25) cI 6 vd_12, oN b n_fa n_tr n_mi (nI nj) (nI nc) (nI wl) n_at n_rm n_rj n_rc nw_9 ov_10 (nI nc) n_rd, ia (b 28) cI 5 od2] rfl ?_
            refine v_istore_n C [(3, .int 1), (5, .int 0), (4, .int ((sitS nj n_kd n_ag st wl dn n_fr n_we n_mi s0 (prm nc k) nc).2.2.2.2.1)), (2, .int be), (0, .ref (b 0)), (1, .int 0)] dX5_findOrder_104 (by decide) rfl ?_
            refine v_goto C 9 dX5_findOrder_105 (by decide) ?_
            have hnx := prm_some (by omega) hnc1 hk hn
            refine v_perm (ws' := [oN b n_fa n_tr n_mi (nI nj) (nI nc) (nI wl) n_at n_rm n_rj n_rc nw_9 ov_10 (nI nc) n_rd, ia (b 9) cI 5 n_kd, ia (b 10) cI 5 n_ag, ia (b 11) cB 5 n_hS, ia (b 12) cB 5 n_iS, ia (b 26) cB 5 iE_13, ia (b 13) cI 5 n_de, ia (b 14) cI 5 n_fr, ia (b 24) cI 5 ho_11, ia (b 25) cI 6 vd_12, ia (b 28) cI 5 od2, ia (b 15) cI 5 n_we, ia (b 29) cI 5 fo1]) [11, 2, 3, 4, 5, 6, 7, 8, 9, 10, 12, 0, 1] (by decide) rfl ?_
            refine v_loc [0, 3, 4, 5] (lv' := [(3, .int 1), (2, .int be), (0, .ref (b 0)), (1, .int 0)]) rfl ?_
            exact ihn_5 (k + 1) be hi bk nw_9 ov_10 ho_11 vd_12 iE_13 od2 fo1 (by omega) hnx.1 hF (fun p hp => by rw [hod2 p hp, hnx.2 p hp]) (Or.inr ⟨by omega, hb1, hb2, hb3, hb4⟩)
      · refine v_iconst C 1 dX5_findOrder_47 (by decide) ?_
        refine v_goto C 52 dX5_findOrder_48 (by decide) ?_
        refine v_istore C [(5, .int 1), (4, .int ((sitS nj n_kd n_ag st wl dn n_fr n_we n_mi s0 (prm nc k) nc).2.2.2.2.1)), (3, .int 1), (2, .int be), (0, .ref (b 0)), (1, .int 0)] dX5_findOrder_52 (by decide) rfl ?_
        refine v_iload_n C dX5_findOrder_54 3 rfl ?_
        refine v_bipush C (-9) dX5_findOrder_55 (by decide) ?_
        refine v_icmp_eq C 65 dX5_findOrder_57 (by decide) (fun c28 => ?_) (fun c28 => ?_)
        · have hk0 : k = 0 := fo_zero hbe (fun q => hvb bk q) c28
          have hF : fhS (fun kx => (sitS nj n_kd n_ag st wl dn n_fr n_we n_mi s0 (prm nc kx) nc).2.2.2.2.1) (-1) (k + 1) = ((-1) * (fun kx => (sitS nj n_kd n_ag st wl dn n_fr n_we n_mi s0 (prm nc kx) nc).2.2.2.2.1) k, k) := fo_first hk0 hv
          refine v_iload C dX5_findOrder_65 1 rfl ?_
          refine v_istore_n C [(2, .int ((sitS nj n_kd n_ag st wl dn n_fr n_we n_mi s0 (prm nc k) nc).2.2.2.2.1)), (5, .int 1), (4, .int ((sitS nj n_kd n_ag st wl dn n_fr n_we n_mi s0 (prm nc k) nc).2.2.2.2.1)), (3, .int 1), (0, .ref (b 0)), (1, .int 0)] dX5_findOrder_67 (by decide) rfl ?_
          refine v_iconst C 0 dX5_findOrder_68 (by decide) ?_
          refine v_istore C [(6, .int 0), (2, .int ((sitS nj n_kd n_ag st wl dn n_fr n_we n_mi s0 (prm nc k) nc).2.2.2.2.1)), (5, .int 1), (4, .int ((sitS nj n_kd n_ag st wl dn n_fr n_we n_mi s0 (prm nc k) nc).2.2.2.2.1)), (3, .int 1), (0, .ref (b 0)), (1, .int 0)] dX5_findOrder_69 (by decide) rfl ?_
          refine v_perm (ws' := [oN b n_fa n_tr n_mi (nI nj) (nI nc) (nI wl) n_at n_rm n_rj n_rc nw_9 ov_10 (nI nc) n_rd, ia (b 9) cI 5 n_kd, ia (b 10) cI 5 n_ag, ia (b 11) cB 5 n_hS, ia (b 12) cB 5 n_iS, ia (b 26) cB 5 iE_13, ia (b 13) cI 5 n_de, ia (b 14) cI 5 n_fr, ia (b 24) cI 5 ho_11, ia (b 25) cI 6 vd_12, ia (b 28) cI 5 rw1, ia (b 15) cI 5 n_we, ia (b 29) cI 5 fo1]) [2, 3, 4, 5, 6, 7, 8, 9, 10, 11, 12, 0, 1] (by decide) rfl ?_
          refine v_ws0 [oN b n_fa n_tr n_mi (nI nj) (nI nc) (nI wl) n_at n_rm n_rj n_rc nw_9 ov_10 (nI nc) n_rd, ia (b 9) cI 5 n_kd, ia (b 10) cI 5 n_ag, ia (b 11) cB 5 n_hS, ia (b 12) cB 5 n_iS, ia (b 26) cB 5 iE_13, ia (b 13) cI 5 n_de, ia (b 14) cI 5 n_fr, ia (b 24) cI 5 ho_11, ia (b 25) cI 6 vd_12, ia (b 28) cI 5 rw1, ia (b 15) cI 5 n_we, ia (b 29) cI 5 (tbF rw1 fo1 0)] (by rw [tbF_0]) ?_
          have lq : ∀ (n_30 : Nat) (i : Nat), nc - i < n_30 → (i ≤ nc) → V zp l ze (rmOf 5 113) zs zm [.ref (b 0), .int 0].toArray zb zt zc D (IM zA zs) (QMi zb [.ref (b 0), .int 0].toArray zs D cI cB cS [oN b n_fa n_tr n_mi (nI nj) (nI nc) (nI wl) n_at n_rm n_rj n_rc n_nw n_ov n_rl n_rd, ia (b 9) cI 5 n_kd, ia (b 10) cI 5 n_ag, ia (b 11) cB 5 n_hS, ia (b 12) cB 5 n_iS, ia (b 26) cB 5 n_iE, ia (b 13) cI 5 n_de, ia (b 14) cI 5 n_fr, ia (b 24) cI 5 n_ho, ia (b 25) cI 6 n_vd, ia (b 28) cI 5 n_rw, ia (b 15) cI 5 n_we, ia (b 29) cI 5 n_fo] zz (fun r w => ∃ (nw' : Int32) (ov' : Int32) (ho' : Nat → Int32) (vd' : Nat → Int32) (iE' : Nat → Int32) (rl' : Int32) (rw' : Nat → Int32) (fo' : Nat → Int32), r = (-1) * (fhS (fun kx => (sitS nj n_kd n_ag st wl dn n_fr n_we n_mi s0 (prm nc kx) nc).2.2.2.2.1) (-1) (fct nc)).1 ∧ w = [oN b n_fa n_tr n_mi (nI nj) (nI nc) (nI wl) n_at n_rm n_rj n_rc nw' ov' rl' n_rd, ia (b 9) cI 5 n_kd, ia (b 10) cI 5 n_ag, ia (b 11) cB 5 n_hS, ia (b 12) cB 5 n_iS, ia (b 26) cB 5 iE', ia (b 13) cI 5 n_de, ia (b 14) cI 5 n_fr, ia (b 24) cI 5 ho', ia (b 25) cI 6 vd', ia (b 28) cI 5 rw', ia (b 15) cI 5 n_we, ia (b 29) cI 5 fo'] ∧ ∀ p, p < nc → fo' p = nI (prm nc (fhS (fun kx => (sitS nj n_kd n_ag st wl dn n_fr n_we n_mi s0 (prm nc kx) nc).2.2.2.2.1) (-1) (fct nc)).2 p))) 0 0 7 [oN b n_fa n_tr n_mi (nI nj) (nI nc) (nI wl) n_at n_rm n_rj n_rc nw_9 ov_10 (nI nc) n_rd, ia (b 9) cI 5 n_kd, ia (b 10) cI 5 n_ag, ia (b 11) cB 5 n_hS, ia (b 12) cB 5 n_iS, ia (b 26) cB 5 iE_13, ia (b 13) cI 5 n_de, ia (b 14) cI 5 n_fr, ia (b 24) cI 5 ho_11, ia (b 25) cI 6 vd_12, ia (b 28) cI 5 rw1, ia (b 15) cI 5 n_we, ia (b 29) cI 5 (tbF rw1 fo1 i)] [(6, .int (nI i)), (2, .int ((sitS nj n_kd n_ag st wl dn n_fr n_we n_mi s0 (prm nc k) nc).2.2.2.2.1)), (3, .int 1), (0, .ref (b 0)), (1, .int 0)] 71 [] := by
            intro n_30
            induction n_30 with
            | zero => intro i b29; exact absurd b29 (by omega)
            | succ n_30 ihn_30 =>
              intro i b29 hi2
              refine v_iload C dX5_findOrder_71 0 rfl ?_
              refine v_aload_n C dX5_findOrder_73 3 rfl ?_
              refine v_get C f_X5_81 dX5_findOrder_74 0 rfl rfl ?_
              refine v_icmp_ge C 100 dX5_findOrder_77 (by decide) (fun c31 => ?_) (fun c31 => ?_)
              · have nc31 : nc ≤ i := nI_leD c31 (by omega)
                have hie : i = nc := by omega
                refine v_ws0 [oN b n_fa n_tr n_mi (nI nj) (nI nc) (nI wl) n_at n_rm n_rj n_rc nw_9 ov_10 (nI nc) n_rd, ia (b 9) cI 5 n_kd, ia (b 10) cI 5 n_ag, ia (b 11) cB 5 n_hS, ia (b 12) cB 5 n_iS, ia (b 26) cB 5 iE_13, ia (b 13) cI 5 n_de, ia (b 14) cI 5 n_fr, ia (b 24) cI 5 ho_11, ia (b 25) cI 6 vd_12, ia (b 28) cI 5 rw1, ia (b 15) cI 5 n_we, ia (b 29) cI 5 (tbF rw1 fo1 nc)] (by rw [hie]) ?_
                refine v_aload_n C dX5_findOrder_100 3 rfl ?_
                refine v_callMi C l_X5_190 (m_X5_nextRow b nc (prm nc k) n_fa n_tr n_mi (nI nj) (nI wl) n_at n_rm n_rj n_rc nw_9 ov_10 (nI nc) n_rd rw1 hnc hnc1 hod (fun i hi => by have := prm_lt nc (by omega) k hk i hi; omega)) (by decide) dX5_findOrder_101 [0, 10] [1, 2, 3, 4, 5, 6, 7, 8, 9, 11, 12] (wr := [ia (b 9) cI 5 n_kd, ia (b 10) cI 5 n_ag, ia (b 11) cB 5 n_hS, ia (b 12) cB 5 n_iS, ia (b 26) cB 5 iE_13, ia (b 13) cI 5 n_de, ia (b 14) cI 5 n_fr, ia (b 24) cI 5 ho_11, ia (b 25) cI 6 vd_12, ia (b 15) cI 5 n_we, ia (b 29) cI 5 (tbF rw1 fo1 nc)]) (by decide) rfl rfl (by decide) (by decide) 0 rfl rfl rfl (rest := []) rfl (Nat.le_of_ble_eq_true rfl) (by decide) (fun r34 w32 h33 => ?_)
                rcases h33 with ⟨hn, rfl, rfl⟩ | ⟨g', od2, hn, rfl, rfl, hod2⟩
                · refine v_ws0 [ia (b 9) cI 5 n_kd, ia (b 10) cI 5 n_ag, ia (b 11) cB 5 n_hS, ia (b 12) cB 5 n_iS, ia (b 26) cB 5 iE_13, ia (b 13) cI 5 n_de, ia (b 14) cI 5 n_fr, ia (b 24) cI 5 ho_11, ia (b 25) cI 6 vd_12, ia (b 15) cI 5 n_we, ia (b 29) cI 5 (tbF rw1 fo1 nc), oN b n_fa n_tr n_mi (nI nj) (nI nc) (nI wl) n_at n_rm n_rj n_rc nw_9 ov_10 (nI nc) n_rd, ia (b 28) cI 5 rw1] rfl ?_
                  refine v_istore_n C [(3, .int 0), (6, .int (nI i)), (2, .int ((sitS nj n_kd n_ag st wl dn n_fr n_we n_mi s0 (prm nc k) nc).2.2.2.2.1)), (0, .ref (b 0)), (1, .int 0)] dX5_findOrder_104 (by decide) rfl ?_
                  refine v_goto C 9 dX5_findOrder_105 (by decide) ?_
                  refine v_iload_n C dX5_findOrder_9 0 rfl ?_
                  refine v_if_eq C 108 dX5_findOrder_10 (by decide) (fun _ => ?_) (fun h => absurd h (by decide))
                  refine v_iload_n C dX5_findOrder_108 2 rfl ?_
                  refine v_perm (ws' := [oN b n_fa n_tr n_mi (nI nj) (nI nc) (nI wl) n_at n_rm n_rj n_rc nw_9 ov_10 (nI nc) n_rd, ia (b 9) cI 5 n_kd, ia (b 10) cI 5 n_ag, ia (b 11) cB 5 n_hS, ia (b 12) cB 5 n_iS, ia (b 26) cB 5 iE_13, ia (b 13) cI 5 n_de, ia (b 14) cI 5 n_fr, ia (b 24) cI 5 ho_11, ia (b 25) cI 6 vd_12, ia (b 28) cI 5 rw1, ia (b 15) cI 5 n_we, ia (b 29) cI 5 (tbF rw1 fo1 nc)]) [11, 0, 1, 2, 3, 4, 5, 6, 7, 8, 12, 9, 10] (by decide) rfl ?_
                  exact v_reti C hA dX5_findOrder_109 rfl (have hke := prm_none (by omega) hnc1 hk hn; ⟨_, _, _, _, _, _, _, _, by rw [← hke, hF, sg2_n], rfl, by rw [← hke, hF]; exact (fun p hp => by rw [tbF_in hp, hod p hp])⟩)
                · refine v_ws0 [ia (b 9) cI 5 n_kd, ia (b 10) cI 5 n_ag, ia (b 11) cB 5 n_hS, ia (b 12) cB 5 n_iS, ia (b 26) cB 5 iE_13, ia (b 13) cI 5 n_de, ia (b 14) cI 5 n_fr, ia (b 24) cI 5 ho_11, ia (b 25) cI 6 vd_12, ia (b 15) cI 5 n_we, ia (b 29) cI 5 (tbF rw1 fo1 nc), oN b n_fa n_tr n_mi (nI nj) (nI nc) (nI wl) n_at n_rm n_rj n_rc nw_9 ov_10 (nI nc) n_rd, ia (b 28) cI 5 od2] rfl ?_
                  refine v_istore_n C [(3, .int 1), (6, .int (nI i)), (2, .int ((sitS nj n_kd n_ag st wl dn n_fr n_we n_mi s0 (prm nc k) nc).2.2.2.2.1)), (0, .ref (b 0)), (1, .int 0)] dX5_findOrder_104 (by decide) rfl ?_
                  refine v_goto C 9 dX5_findOrder_105 (by decide) ?_
                  have hnx := prm_some (by omega) hnc1 hk hn
                  refine v_perm (ws' := [oN b n_fa n_tr n_mi (nI nj) (nI nc) (nI wl) n_at n_rm n_rj n_rc nw_9 ov_10 (nI nc) n_rd, ia (b 9) cI 5 n_kd, ia (b 10) cI 5 n_ag, ia (b 11) cB 5 n_hS, ia (b 12) cB 5 n_iS, ia (b 26) cB 5 iE_13, ia (b 13) cI 5 n_de, ia (b 14) cI 5 n_fr, ia (b 24) cI 5 ho_11, ia (b 25) cI 6 vd_12, ia (b 28) cI 5 od2, ia (b 15) cI 5 n_we, ia (b 29) cI 5 (tbF rw1 fo1 nc)]) [11, 0, 1, 2, 3, 4, 5, 6, 7, 8, 12, 9, 10] (by decide) rfl ?_
                  refine v_loc [0, 2, 3, 4] (lv' := [(3, .int 1), (2, .int ((sitS nj n_kd n_ag st wl dn n_fr n_we n_mi s0 (prm nc k) nc).2.2.2.2.1)), (0, .ref (b 0)), (1, .int 0)]) rfl ?_
                  exact ihn_5 (k + 1) ((sitS nj n_kd n_ag st wl dn n_fr n_we n_mi s0 (prm nc k) nc).2.2.2.2.1) ((-1) * (fun kx => (sitS nj n_kd n_ag st wl dn n_fr n_we n_mi s0 (prm nc kx) nc).2.2.2.2.1) k) k nw_9 ov_10 ho_11 vd_12 iE_13 od2 (tbF rw1 fo1 nc) (by omega) hnx.1 hF (fun p hp => by rw [hod2 p hp, hnx.2 p hp]) (Or.inr ⟨by omega, rfl, rfl, by omega, fun p hp => by rw [tbF_in hp, hod p hp]⟩)
              · have nc31 : i < nc := nI_ltD c31 (by omega)
                refine v_aload_n C dX5_findOrder_80 3 rfl ?_
                refine v_get C f_X5_59 dX5_findOrder_81 0 rfl rfl ?_
                refine v_iload C dX5_findOrder_84 0 rfl ?_
                refine v_aload_n C dX5_findOrder_86 3 rfl ?_
                refine v_get C f_X5_56 dX5_findOrder_87 0 rfl rfl ?_
                refine v_iload C dX5_findOrder_90 0 rfl ?_
                refine v_ialdN C dX5_findOrder_92 10 rfl i rfl (by omega) (by decide) ?_
                refine v_iastN C [oN b n_fa n_tr n_mi (nI nj) (nI nc) (nI wl) n_at n_rm n_rj n_rc nw_9 ov_10 (nI nc) n_rd, ia (b 9) cI 5 n_kd, ia (b 10) cI 5 n_ag, ia (b 11) cB 5 n_hS, ia (b 12) cB 5 n_iS, ia (b 26) cB 5 iE_13, ia (b 13) cI 5 n_de, ia (b 14) cI 5 n_fr, ia (b 24) cI 5 ho_11, ia (b 25) cI 6 vd_12, ia (b 28) cI 5 rw1, ia (b 15) cI 5 n_we, ia (b 29) cI 5 (upd (tbF rw1 fo1 i) i (rw1 i))] dX5_findOrder_93 12 rfl i rfl (by omega) (by decide) rfl ?_
                refine v_ws0 [oN b n_fa n_tr n_mi (nI nj) (nI nc) (nI wl) n_at n_rm n_rj n_rc nw_9 ov_10 (nI nc) n_rd, ia (b 9) cI 5 n_kd, ia (b 10) cI 5 n_ag, ia (b 11) cB 5 n_hS, ia (b 12) cB 5 n_iS, ia (b 26) cB 5 iE_13, ia (b 13) cI 5 n_de, ia (b 14) cI 5 n_fr, ia (b 24) cI 5 ho_11, ia (b 25) cI 6 vd_12, ia (b 28) cI 5 rw1, ia (b 15) cI 5 n_we, ia (b 29) cI 5 (tbF rw1 fo1 (i + 1))] (by rw [← tbF_s rw1]) ?_
                refine v_iinc C (nI (i + 1)) [(6, .int (nI (i + 1))), (2, .int ((sitS nj n_kd n_ag st wl dn n_fr n_we n_mi s0 (prm nc k) nc).2.2.2.2.1)), (3, .int 1), (0, .ref (b 0)), (1, .int 0)] 0 dX5_findOrder_94 rfl (nI_inc _) (by decide) rfl ?_
                refine v_goto C 71 dX5_findOrder_97 (by decide) ?_
                exact ihn_30 (i + 1) (by omega) (by omega)
          refine v_loc [0, 1, 4, 5, 6] (lv' := [(6, .int 0), (2, .int ((sitS nj n_kd n_ag st wl dn n_fr n_we n_mi s0 (prm nc k) nc).2.2.2.2.1)), (3, .int 1), (0, .ref (b 0)), (1, .int 0)]) rfl ?_
          exact lq (nc - 0 + 1) 0 (by omega) (by omega)
        · obtain ⟨hkp, hb1, hb2, hb3, hb4⟩ := fo_some hbe c28
          have hF : fhS (fun kx => (sitS nj n_kd n_ag st wl dn n_fr n_we n_mi s0 (prm nc kx) nc).2.2.2.2.1) (-1) (k + 1) = ((-1) * (fun kx => (sitS nj n_kd n_ag st wl dn n_fr n_we n_mi s0 (prm nc kx) nc).2.2.2.2.1) k, k) := by rw [fhS, hfh, if_neg (fun q => c17 (by rw [hb1]; rw [hb2] at q; exact (le_n (hvb k hk) (hvb bk hb3) hnc).mp q))]
          refine v_iload C dX5_findOrder_60 0 rfl ?_
          refine v_if_eq C 100 dX5_findOrder_62 (by decide) (fun h => absurd h (by decide)) (fun _ => ?_)
          refine v_iload C dX5_findOrder_65 1 rfl ?_
          refine v_istore_n C [(2, .int ((sitS nj n_kd n_ag st wl dn n_fr n_we n_mi s0 (prm nc k) nc).2.2.2.2.1)), (5, .int 1), (4, .int ((sitS nj n_kd n_ag st wl dn n_fr n_we n_mi s0 (prm nc k) nc).2.2.2.2.1)), (3, .int 1), (0, .ref (b 0)), (1, .int 0)] dX5_findOrder_67 (by decide) rfl ?_
          refine v_iconst C 0 dX5_findOrder_68 (by decide) ?_
          refine v_istore C [(6, .int 0), (2, .int ((sitS nj n_kd n_ag st wl dn n_fr n_we n_mi s0 (prm nc k) nc).2.2.2.2.1)), (5, .int 1), (4, .int ((sitS nj n_kd n_ag st wl dn n_fr n_we n_mi s0 (prm nc k) nc).2.2.2.2.1)), (3, .int 1), (0, .ref (b 0)), (1, .int 0)] dX5_findOrder_69 (by decide) rfl ?_
          refine v_perm (ws' := [oN b n_fa n_tr n_mi (nI nj) (nI nc) (nI wl) n_at n_rm n_rj n_rc nw_9 ov_10 (nI nc) n_rd, ia (b 9) cI 5 n_kd, ia (b 10) cI 5 n_ag, ia (b 11) cB 5 n_hS, ia (b 12) cB 5 n_iS, ia (b 26) cB 5 iE_13, ia (b 13) cI 5 n_de, ia (b 14) cI 5 n_fr, ia (b 24) cI 5 ho_11, ia (b 25) cI 6 vd_12, ia (b 28) cI 5 rw1, ia (b 15) cI 5 n_we, ia (b 29) cI 5 fo1]) [2, 3, 4, 5, 6, 7, 8, 9, 10, 11, 12, 0, 1] (by decide) rfl ?_
          refine v_ws0 [oN b n_fa n_tr n_mi (nI nj) (nI nc) (nI wl) n_at n_rm n_rj n_rc nw_9 ov_10 (nI nc) n_rd, ia (b 9) cI 5 n_kd, ia (b 10) cI 5 n_ag, ia (b 11) cB 5 n_hS, ia (b 12) cB 5 n_iS, ia (b 26) cB 5 iE_13, ia (b 13) cI 5 n_de, ia (b 14) cI 5 n_fr, ia (b 24) cI 5 ho_11, ia (b 25) cI 6 vd_12, ia (b 28) cI 5 rw1, ia (b 15) cI 5 n_we, ia (b 29) cI 5 (tbF rw1 fo1 0)] (by rw [tbF_0]) ?_
          have lq : ∀ (n_36 : Nat) (i : Nat), nc - i < n_36 → (i ≤ nc) → V zp l ze (rmOf 5 113) zs zm [.ref (b 0), .int 0].toArray zb zt zc D (IM zA zs) (QMi zb [.ref (b 0), .int 0].toArray zs D cI cB cS [oN b n_fa n_tr n_mi (nI nj) (nI nc) (nI wl) n_at n_rm n_rj n_rc n_nw n_ov n_rl n_rd, ia (b 9) cI 5 n_kd, ia (b 10) cI 5 n_ag, ia (b 11) cB 5 n_hS, ia (b 12) cB 5 n_iS, ia (b 26) cB 5 n_iE, ia (b 13) cI 5 n_de, ia (b 14) cI 5 n_fr, ia (b 24) cI 5 n_ho, ia (b 25) cI 6 n_vd, ia (b 28) cI 5 n_rw, ia (b 15) cI 5 n_we, ia (b 29) cI 5 n_fo] zz (fun r w => ∃ (nw' : Int32) (ov' : Int32) (ho' : Nat → Int32) (vd' : Nat → Int32) (iE' : Nat → Int32) (rl' : Int32) (rw' : Nat → Int32) (fo' : Nat → Int32), r = (-1) * (fhS (fun kx => (sitS nj n_kd n_ag st wl dn n_fr n_we n_mi s0 (prm nc kx) nc).2.2.2.2.1) (-1) (fct nc)).1 ∧ w = [oN b n_fa n_tr n_mi (nI nj) (nI nc) (nI wl) n_at n_rm n_rj n_rc nw' ov' rl' n_rd, ia (b 9) cI 5 n_kd, ia (b 10) cI 5 n_ag, ia (b 11) cB 5 n_hS, ia (b 12) cB 5 n_iS, ia (b 26) cB 5 iE', ia (b 13) cI 5 n_de, ia (b 14) cI 5 n_fr, ia (b 24) cI 5 ho', ia (b 25) cI 6 vd', ia (b 28) cI 5 rw', ia (b 15) cI 5 n_we, ia (b 29) cI 5 fo'] ∧ ∀ p, p < nc → fo' p = nI (prm nc (fhS (fun kx => (sitS nj n_kd n_ag st wl dn n_fr n_we n_mi s0 (prm nc kx) nc).2.2.2.2.1) (-1) (fct nc)).2 p))) 0 0 7 [oN b n_fa n_tr n_mi (nI nj) (nI nc) (nI wl) n_at n_rm n_rj n_rc nw_9 ov_10 (nI nc) n_rd, ia (b 9) cI 5 n_kd, ia (b 10) cI 5 n_ag, ia (b 11) cB 5 n_hS, ia (b 12) cB 5 n_iS, ia (b 26) cB 5 iE_13, ia (b 13) cI 5 n_de, ia (b 14) cI 5 n_fr, ia (b 24) cI 5 ho_11, ia (b 25) cI 6 vd_12, ia (b 28) cI 5 rw1, ia (b 15) cI 5 n_we, ia (b 29) cI 5 (tbF rw1 fo1 i)] [(6, .int (nI i)), (2, .int ((sitS nj n_kd n_ag st wl dn n_fr n_we n_mi s0 (prm nc k) nc).2.2.2.2.1)), (3, .int 1), (0, .ref (b 0)), (1, .int 0)] 71 [] := by
            intro n_36
            induction n_36 with
            | zero => intro i b35; exact absurd b35 (by omega)
            | succ n_36 ihn_36 =>
              intro i b35 hi2
              refine v_iload C dX5_findOrder_71 0 rfl ?_
              refine v_aload_n C dX5_findOrder_73 3 rfl ?_
              refine v_get C f_X5_81 dX5_findOrder_74 0 rfl rfl ?_
              refine v_icmp_ge C 100 dX5_findOrder_77 (by decide) (fun c37 => ?_) (fun c37 => ?_)
              · have nc37 : nc ≤ i := nI_leD c37 (by omega)
                have hie : i = nc := by omega
                refine v_ws0 [oN b n_fa n_tr n_mi (nI nj) (nI nc) (nI wl) n_at n_rm n_rj n_rc nw_9 ov_10 (nI nc) n_rd, ia (b 9) cI 5 n_kd, ia (b 10) cI 5 n_ag, ia (b 11) cB 5 n_hS, ia (b 12) cB 5 n_iS, ia (b 26) cB 5 iE_13, ia (b 13) cI 5 n_de, ia (b 14) cI 5 n_fr, ia (b 24) cI 5 ho_11, ia (b 25) cI 6 vd_12, ia (b 28) cI 5 rw1, ia (b 15) cI 5 n_we, ia (b 29) cI 5 (tbF rw1 fo1 nc)] (by rw [hie]) ?_
                refine v_aload_n C dX5_findOrder_100 3 rfl ?_
                refine v_callMi C l_X5_190 (m_X5_nextRow b nc (prm nc k) n_fa n_tr n_mi (nI nj) (nI wl) n_at n_rm n_rj n_rc nw_9 ov_10 (nI nc) n_rd rw1 hnc hnc1 hod (fun i hi => by have := prm_lt nc (by omega) k hk i hi; omega)) (by decide) dX5_findOrder_101 [0, 10] [1, 2, 3, 4, 5, 6, 7, 8, 9, 11, 12] (wr := [ia (b 9) cI 5 n_kd, ia (b 10) cI 5 n_ag, ia (b 11) cB 5 n_hS, ia (b 12) cB 5 n_iS, ia (b 26) cB 5 iE_13, ia (b 13) cI 5 n_de, ia (b 14) cI 5 n_fr, ia (b 24) cI 5 ho_11, ia (b 25) cI 6 vd_12, ia (b 15) cI 5 n_we, ia (b 29) cI 5 (tbF rw1 fo1 nc)]) (by decide) rfl rfl (by decide) (by decide) 0 rfl rfl rfl (rest := []) rfl (Nat.le_of_ble_eq_true rfl) (by decide) (fun r40 w38 h39 => ?_)
                rcases h39 with ⟨hn, rfl, rfl⟩ | ⟨g', od2, hn, rfl, rfl, hod2⟩
                · refine v_ws0 [ia (b 9) cI 5 n_kd, ia (b 10) cI 5 n_ag, ia (b 11) cB 5 n_hS, ia (b 12) cB 5 n_iS, ia (b 26) cB 5 iE_13, ia (b 13) cI 5 n_de, ia (b 14) cI 5 n_fr, ia (b 24) cI 5 ho_11, ia (b 25) cI 6 vd_12, ia (b 15) cI 5 n_we, ia (b 29) cI 5 (tbF rw1 fo1 nc), oN b n_fa n_tr n_mi (nI nj) (nI nc) (nI wl) n_at n_rm n_rj n_rc nw_9 ov_10 (nI nc) n_rd, ia (b 28) cI 5 rw1] rfl ?_
                  refine v_istore_n C [(3, .int 0), (6, .int (nI i)), (2, .int ((sitS nj n_kd n_ag st wl dn n_fr n_we n_mi s0 (prm nc k) nc).2.2.2.2.1)), (0, .ref (b 0)), (1, .int 0)] dX5_findOrder_104 (by decide) rfl ?_
                  refine v_goto C 9 dX5_findOrder_105 (by decide) ?_
                  refine v_iload_n C dX5_findOrder_9 0 rfl ?_
                  refine v_if_eq C 108 dX5_findOrder_10 (by decide) (fun _ => ?_) (fun h => absurd h (by decide))
                  refine v_iload_n C dX5_findOrder_108 2 rfl ?_
                  refine v_perm (ws' := [oN b n_fa n_tr n_mi (nI nj) (nI nc) (nI wl) n_at n_rm n_rj n_rc nw_9 ov_10 (nI nc) n_rd, ia (b 9) cI 5 n_kd, ia (b 10) cI 5 n_ag, ia (b 11) cB 5 n_hS, ia (b 12) cB 5 n_iS, ia (b 26) cB 5 iE_13, ia (b 13) cI 5 n_de, ia (b 14) cI 5 n_fr, ia (b 24) cI 5 ho_11, ia (b 25) cI 6 vd_12, ia (b 28) cI 5 rw1, ia (b 15) cI 5 n_we, ia (b 29) cI 5 (tbF rw1 fo1 nc)]) [11, 0, 1, 2, 3, 4, 5, 6, 7, 8, 12, 9, 10] (by decide) rfl ?_
                  exact v_reti C hA dX5_findOrder_109 rfl (have hke := prm_none (by omega) hnc1 hk hn; ⟨_, _, _, _, _, _, _, _, by rw [← hke, hF, sg2_n], rfl, by rw [← hke, hF]; exact (fun p hp => by rw [tbF_in hp, hod p hp])⟩)
                · refine v_ws0 [ia (b 9) cI 5 n_kd, ia (b 10) cI 5 n_ag, ia (b 11) cB 5 n_hS, ia (b 12) cB 5 n_iS, ia (b 26) cB 5 iE_13, ia (b 13) cI 5 n_de, ia (b 14) cI 5 n_fr, ia (b 24) cI 5 ho_11, ia (b 25) cI 6 vd_12, ia (b 15) cI 5 n_we, ia (b 29) cI 5 (tbF rw1 fo1 nc), oN b n_fa n_tr n_mi (nI nj) (nI nc) (nI wl) n_at n_rm n_rj n_rc nw_9 ov_10 (nI nc) n_rd, ia (b 28) cI 5 od2] rfl ?_
                  refine v_istore_n C [(3, .int 1), (6, .int (nI i)), (2, .int ((sitS nj n_kd n_ag st wl dn n_fr n_we n_mi s0 (prm nc k) nc).2.2.2.2.1)), (0, .ref (b 0)), (1, .int 0)] dX5_findOrder_104 (by decide) rfl ?_
                  refine v_goto C 9 dX5_findOrder_105 (by decide) ?_
                  have hnx := prm_some (by omega) hnc1 hk hn
                  refine v_perm (ws' := [oN b n_fa n_tr n_mi (nI nj) (nI nc) (nI wl) n_at n_rm n_rj n_rc nw_9 ov_10 (nI nc) n_rd, ia (b 9) cI 5 n_kd, ia (b 10) cI 5 n_ag, ia (b 11) cB 5 n_hS, ia (b 12) cB 5 n_iS, ia (b 26) cB 5 iE_13, ia (b 13) cI 5 n_de, ia (b 14) cI 5 n_fr, ia (b 24) cI 5 ho_11, ia (b 25) cI 6 vd_12, ia (b 28) cI 5 od2, ia (b 15) cI 5 n_we, ia (b 29) cI 5 (tbF rw1 fo1 nc)]) [11, 0, 1, 2, 3, 4, 5, 6, 7, 8, 12, 9, 10] (by decide) rfl ?_
                  refine v_loc [0, 2, 3, 4] (lv' := [(3, .int 1), (2, .int ((sitS nj n_kd n_ag st wl dn n_fr n_we n_mi s0 (prm nc k) nc).2.2.2.2.1)), (0, .ref (b 0)), (1, .int 0)]) rfl ?_
                  exact ihn_5 (k + 1) ((sitS nj n_kd n_ag st wl dn n_fr n_we n_mi s0 (prm nc k) nc).2.2.2.2.1) ((-1) * (fun kx => (sitS nj n_kd n_ag st wl dn n_fr n_we n_mi s0 (prm nc kx) nc).2.2.2.2.1) k) k nw_9 ov_10 ho_11 vd_12 iE_13 od2 (tbF rw1 fo1 nc) (by omega) hnx.1 hF (fun p hp => by rw [hod2 p hp, hnx.2 p hp]) (Or.inr ⟨by omega, rfl, rfl, by omega, fun p hp => by rw [tbF_in hp, hod p hp]⟩)
              · have nc37 : i < nc := nI_ltD c37 (by omega)
                refine v_aload_n C dX5_findOrder_80 3 rfl ?_
                refine v_get C f_X5_59 dX5_findOrder_81 0 rfl rfl ?_
                refine v_iload C dX5_findOrder_84 0 rfl ?_
                refine v_aload_n C dX5_findOrder_86 3 rfl ?_
                refine v_get C f_X5_56 dX5_findOrder_87 0 rfl rfl ?_
                refine v_iload C dX5_findOrder_90 0 rfl ?_
                refine v_ialdN C dX5_findOrder_92 10 rfl i rfl (by omega) (by decide) ?_
                refine v_iastN C [oN b n_fa n_tr n_mi (nI nj) (nI nc) (nI wl) n_at n_rm n_rj n_rc nw_9 ov_10 (nI nc) n_rd, ia (b 9) cI 5 n_kd, ia (b 10) cI 5 n_ag, ia (b 11) cB 5 n_hS, ia (b 12) cB 5 n_iS, ia (b 26) cB 5 iE_13, ia (b 13) cI 5 n_de, ia (b 14) cI 5 n_fr, ia (b 24) cI 5 ho_11, ia (b 25) cI 6 vd_12, ia (b 28) cI 5 rw1, ia (b 15) cI 5 n_we, ia (b 29) cI 5 (upd (tbF rw1 fo1 i) i (rw1 i))] dX5_findOrder_93 12 rfl i rfl (by omega) (by decide) rfl ?_
                refine v_ws0 [oN b n_fa n_tr n_mi (nI nj) (nI nc) (nI wl) n_at n_rm n_rj n_rc nw_9 ov_10 (nI nc) n_rd, ia (b 9) cI 5 n_kd, ia (b 10) cI 5 n_ag, ia (b 11) cB 5 n_hS, ia (b 12) cB 5 n_iS, ia (b 26) cB 5 iE_13, ia (b 13) cI 5 n_de, ia (b 14) cI 5 n_fr, ia (b 24) cI 5 ho_11, ia (b 25) cI 6 vd_12, ia (b 28) cI 5 rw1, ia (b 15) cI 5 n_we, ia (b 29) cI 5 (tbF rw1 fo1 (i + 1))] (by rw [← tbF_s rw1]) ?_
                refine v_iinc C (nI (i + 1)) [(6, .int (nI (i + 1))), (2, .int ((sitS nj n_kd n_ag st wl dn n_fr n_we n_mi s0 (prm nc k) nc).2.2.2.2.1)), (3, .int 1), (0, .ref (b 0)), (1, .int 0)] 0 dX5_findOrder_94 rfl (nI_inc _) (by decide) rfl ?_
                refine v_goto C 71 dX5_findOrder_97 (by decide) ?_
                exact ihn_36 (i + 1) (by omega) (by omega)
          refine v_loc [0, 1, 4, 5, 6] (lv' := [(6, .int 0), (2, .int ((sitS nj n_kd n_ag st wl dn n_fr n_we n_mi s0 (prm nc k) nc).2.2.2.2.1)), (3, .int 1), (0, .ref (b 0)), (1, .int 0)]) rfl ?_
          exact lq (nc - 0 + 1) 0 (by omega) (by omega)
  exact lp (fct nc - 0 + 1) 0 (-9) (-1000) 0 n_nw n_ov n_ho n_vd n_iE (tbF nI n_rw nc) n_fo (by omega) (fct_pos nc (by omega)) rfl (fun p hp => by rw [tbF_in hp, prm_0 nc (by omega) p hp]) (Or.inl ⟨rfl, rfl⟩)
set_option maxHeartbeats 4000000 in
set_option maxRecDepth 100000 in
theorem m_X5_order0 {l : Launch} {D : va_G} {cI cB cS : ClassId} (b : Nat → Nat) (nj nc wl s0 st nr : Nat) (dn : Nat → Nat) (n_fa : Int32) (n_tr : Int32) (n_mi : Int32) (n_at : Int32) (n_rm : Int32) (n_rj : Int32) (n_rc : Int32) (n_nw : Int32) (n_ov : Int32) (n_rl : Int32) (n_kd : Nat → Int32) (n_ag : Nat → Int32) (n_hS : Nat → Int32) (n_iS : Nat → Int32) (n_iE : Nat → Int32) (n_de : Nat → Int32) (n_fr : Nat → Int32) (n_ho : Nat → Int32) (n_vd : Nat → Int32) (n_rw : Nat → Int32) (n_we : Nat → Int32) (n_fo : Nat → Int32) (k : Int32) (hnj : nj ≤ 5) (hnc : nc ≤ 5) (hwl : wl < 64) (hs0 : s0 < 2 ^ nj) (hst2 : st < 2 ^ nj) (hp5 : 2 ^ nj ≤ 32) (hnr : nr ≤ 8) (hhS : ∀ j, j < nj → n_hS j = bA s0 j) (hiS : ∀ j, j < nj → n_iS j = bA st j) (hde : ∀ c, c < nc → n_de c = nI (dn c) ∧ dn c < 6) (hwe : ∀ c, c < nc → 0 ≤ (n_we c).toInt ∧ (n_we c).toInt ≤ 9) : Mi l yX5_order cX5_order 4 (some .int) 6 139 D cI cB cS [.ref (b 0), .int k, .int 0] [oN b n_fa n_tr n_mi (nI nj) (nI nc) (nI wl) n_at n_rm n_rj n_rc n_nw n_ov n_rl (nI nr), ia (b 9) cI 5 n_kd, ia (b 10) cI 5 n_ag, ia (b 11) cB 5 n_hS, ia (b 12) cB 5 n_iS, ia (b 26) cB 5 n_iE, ia (b 13) cI 5 n_de, ia (b 14) cI 5 n_fr, ia (b 24) cI 5 n_ho, ia (b 25) cI 6 n_vd, ia (b 28) cI 5 n_rw, ia (b 15) cI 5 n_we, ia (b 29) cI 5 n_fo] (fun r w => ∃ (nw' : Int32) (ov' : Int32) (ho' : Nat → Int32) (vd' : Nat → Int32) (iE' : Nat → Int32) (rl' : Int32) (rw' : Nat → Int32) (fo' : Nat → Int32), r = hoF (fun kx => (sitS nj n_kd n_ag st wl dn n_fr n_we n_mi s0 (prm nc kx) nc).2.2.2.2.1) nc (-1) k ∧ w = [oN b n_fa n_tr n_mi (nI nj) (nI nc) (nI wl) n_at n_rm n_rj n_rc nw' ov' rl' (nI nr), ia (b 9) cI 5 n_kd, ia (b 10) cI 5 n_ag, ia (b 11) cB 5 n_hS, ia (b 12) cB 5 n_iS, ia (b 26) cB 5 iE', ia (b 13) cI 5 n_de, ia (b 14) cI 5 n_fr, ia (b 24) cI 5 ho', ia (b 25) cI 6 vd', ia (b 28) cI 5 rw', ia (b 15) cI 5 n_we, ia (b 29) cI 5 fo']) := by
  refine Mi.of (by decide) (Nat.le_of_ble_eq_true rfl) ?_
  intro zp ze zs zm zb zt zc zz zA hA C hnm
  refine v_lv0 [(0, .ref (b 0)), (1, .int k), (2, .int 0)] rfl ?_
  refine v_iload_n C dX5_order_0 1 rfl ?_
  refine v_iconst C (-1) dX5_order_1 (by decide) ?_
  refine v_icmp_ge C 7 dX5_order_2 (by decide) (fun c1 => ?_) (fun c1 => ?_)
  · refine v_aload_n C dX5_order_7 0 rfl ?_
    refine v_get C f_X5_81 dX5_order_8 0 rfl rfl ?_
    refine v_if_ne C 17 dX5_order_11 (by decide) (fun c2 => ?_) (fun c2 => ?_)
    · have nc2 : nc ≠ 0 := fun q => c2 (by rw [q] <;> rfl)
      have zc3 : ¬ nI nc ≤ 0 := by rw [nc0 hnc]; exact nc2
      have hnc1 : 1 ≤ nc := by omega
      refine v_aload_n C dX5_order_17 0 rfl ?_
      refine v_iload_n C dX5_order_18 2 rfl ?_
      refine v_callMi C l_X5_194 (m_X5_findOrder0 b wl nj nc s0 st dn n_fa n_tr n_mi n_at n_rm n_rj n_rc n_nw n_ov n_rl (nI nr) n_kd n_ag n_hS n_iS n_iE n_de n_fr n_ho n_vd n_rw n_we n_fo (by assumption) (by assumption) (by assumption) (by assumption) (by assumption) (by assumption) (by assumption) (by assumption) (hv2 hnc (se_bd (L := nc) hwe (fun p hp => by rw [prm_0 nc (by omega) p hp]; exact hp) hnc nc (Nat.le_refl nc)))) (by decide) dX5_order_19 [0, 1, 2, 3, 4, 5, 6, 7, 8, 9, 10, 11, 12] [] (wr := []) (by decide) rfl rfl (by decide) (by decide) 0 rfl rfl rfl (rest := []) rfl (Nat.le_of_ble_eq_true rfl) (by decide) (fun r6 w4 h5 => ?_)
      obtain ⟨nw_7, ov_8, ho_9, vd_10, iE_11, rl_12, rw_13, fo_14, rfl, rfl, hb15⟩ := h5
      refine v_ws0 [oN b n_fa n_tr n_mi (nI nj) (nI nc) (nI wl) n_at n_rm n_rj n_rc nw_7 ov_8 rl_12 (nI nr), ia (b 9) cI 5 n_kd, ia (b 10) cI 5 n_ag, ia (b 11) cB 5 n_hS, ia (b 12) cB 5 n_iS, ia (b 26) cB 5 iE_11, ia (b 13) cI 5 n_de, ia (b 14) cI 5 n_fr, ia (b 24) cI 5 ho_9, ia (b 25) cI 6 vd_10, ia (b 28) cI 5 rw_13, ia (b 15) cI 5 n_we, ia (b 29) cI 5 fo_14] rfl ?_
      refine v_istore_n C [(3, .int ((-1) * (fhS (fun kx => (sitS nj n_kd n_ag st wl dn n_fr n_we n_mi s0 (prm nc kx) nc).2.2.2.2.1) (-1) (fct nc)).1)), (0, .ref (b 0)), (1, .int k), (2, .int 0)] dX5_order_22 (by decide) rfl ?_
      refine v_iload_n C dX5_order_23 2 rfl ?_
      refine v_iconst C (-1) dX5_order_24 (by decide) ?_
      refine v_icmp_ne C 32 dX5_order_25 (by decide) (fun c16 => ?_) (fun c16 => ?_)
      · refine v_iload_n C dX5_order_32 2 rfl ?_
        refine v_aload_n C dX5_order_33 1 rfl ?_
        refine v_get C f_X5_81 dX5_order_34 0 rfl rfl ?_
        refine v_icmp_ge C 49 dX5_order_37 (by decide) (fun c17 => ?_) (fun c17 => ?_)
        · refine v_bipush C (-9) dX5_order_49 (by decide) ?_
          exact v_reti C hA dX5_order_51 rfl (⟨_, _, _, _, _, _, _, _, by rw [hoF, if_pos c1, if_neg zc3, if_neg (Int32.not_lt.mpr c17)], rfl⟩)
        · refine v_aload_n C dX5_order_40 1 rfl ?_
          refine v_get C f_X5_59 dX5_order_41 0 rfl rfl ?_
          refine v_iload_n C dX5_order_44 2 rfl ?_
          have hk0 : 0 ≤ k := m1_le c1 c16
          obtain ⟨kN, hkN, rfl⟩ := ix_of (by omega) hk0 (Int32.not_le.mp c17)
          have zkN : (nI kN).toNatClampNeg = kN := nI_clamp (by omega)
          refine v_ialdN C dX5_order_45 12 rfl kN rfl (by omega) (by decide) ?_
          refine v_eqi (nI (prm nc (fhS (fun kx => (sitS nj n_kd n_ag st wl dn n_fr n_we n_mi s0 (prm nc kx) nc).2.2.2.2.1) (-1) (fct nc)).2 kN)) (hb15 kN hkN) ?_
          refine v_goto C 51 dX5_order_46 (by decide) ?_
          exact v_reti C hA dX5_order_51 rfl (⟨_, _, _, _, _, _, _, _, by rw [hoF, if_pos c1, if_neg zc3, if_pos (Int32.not_le.mp c17), if_pos hk0, zkN], rfl⟩)
      · refine v_iload_n C dX5_order_28 0 rfl ?_
        refine v_goto C 51 dX5_order_29 (by decide) ?_
        exact v_reti C hA dX5_order_51 rfl (⟨_, _, _, _, _, _, _, _, by rw [hoF, if_pos c1, if_neg zc3, if_pos (by rw [c16]; exact m1_lt (by omega)), if_neg (by rw [c16]; decide)], rfl⟩)
    · have nc2 : nc = 0 := nI_eqP c2 (by omega) (by omega)
      have zc18 : nI nc ≤ 0 := by rw [nc0 hnc]; exact nc2
      refine v_bipush C (-3) dX5_order_14 (by decide) ?_
      exact v_reti C hA dX5_order_16 rfl (⟨_, _, _, _, _, _, _, _, by rw [hoF, if_pos c1, if_pos zc18], rfl⟩)
  · refine v_iconst C (-1) dX5_order_5 (by decide) ?_
    exact v_reti C hA dX5_order_6 rfl (⟨_, _, _, _, _, _, _, _, by rw [hoF, if_neg c1], rfl⟩)
set_option maxHeartbeats 4000000 in
set_option maxRecDepth 100000 in
theorem m_X5_delay {l : Launch} {D : va_G} {cI cB cS : ClassId} (b : Nat → Nat) (nj nc wl s0 st nr : Nat) (dn : Nat → Nat) (n_fa : Int32) (n_tr : Int32) (n_mi : Int32) (n_at : Int32) (n_rm : Int32) (n_rj : Int32) (n_rc : Int32) (n_nw : Int32) (n_ov : Int32) (n_rl : Int32) (n_kd : Nat → Int32) (n_ag : Nat → Int32) (n_hS : Nat → Int32) (n_iS : Nat → Int32) (n_iE : Nat → Int32) (n_de : Nat → Int32) (n_fr : Nat → Int32) (n_ho : Nat → Int32) (n_vd : Nat → Int32) (n_rw : Nat → Int32) (n_we : Nat → Int32) (n_fo : Nat → Int32) (k : Int32) (hnj : nj ≤ 5) (hnc : nc ≤ 5) (hwl : wl < 64) (hs0 : s0 < 2 ^ nj) (hst2 : st < 2 ^ nj) (hp5 : 2 ^ nj ≤ 32) (hnr : nr ≤ 8) (hhS : ∀ j, j < nj → n_hS j = bA s0 j) (hiS : ∀ j, j < nj → n_iS j = bA st j) (hde : ∀ c, c < nc → n_de c = nI (dn c) ∧ dn c < 6) (hwe : ∀ c, c < nc → 0 ≤ (n_we c).toInt ∧ (n_we c).toInt ≤ 9) : Mi l yX5_delay cX5_delay 2 (some .int) 7 162 D cI cB cS [.ref (b 0), .int k] [oN b n_fa n_tr n_mi (nI nj) (nI nc) (nI wl) n_at n_rm n_rj n_rc n_nw n_ov n_rl (nI nr), ia (b 9) cI 5 n_kd, ia (b 10) cI 5 n_ag, ia (b 11) cB 5 n_hS, ia (b 12) cB 5 n_iS, ia (b 26) cB 5 n_iE, ia (b 13) cI 5 n_de, ia (b 14) cI 5 n_fr, ia (b 24) cI 5 n_ho, ia (b 25) cI 6 n_vd, ia (b 28) cI 5 n_rw, ia (b 15) cI 5 n_we, ia (b 29) cI 5 n_fo] (fun r w => ∃ (nw' : Int32) (ov' : Int32) (ho' : Nat → Int32) (vd' : Nat → Int32) (iE' : Nat → Int32) (rl' : Int32) (rw' : Nat → Int32) (fo' : Nat → Int32), r = hoF (fun kx => (sitS nj n_kd n_ag st wl dn n_fr n_we n_mi s0 (prm nc kx) nc).2.2.2.2.1) nc (-1) k ∧ w = [oN b n_fa n_tr n_mi (nI nj) (nI nc) (nI wl) n_at n_rm n_rj n_rc nw' ov' rl' (nI nr), ia (b 9) cI 5 n_kd, ia (b 10) cI 5 n_ag, ia (b 11) cB 5 n_hS, ia (b 12) cB 5 n_iS, ia (b 26) cB 5 iE', ia (b 13) cI 5 n_de, ia (b 14) cI 5 n_fr, ia (b 24) cI 5 ho', ia (b 25) cI 6 vd', ia (b 28) cI 5 rw', ia (b 15) cI 5 n_we, ia (b 29) cI 5 fo']) := by
  refine Mi.of (by decide) (Nat.le_of_ble_eq_true rfl) ?_
  intro zp ze zs zm zb zt zc zz zA hA C hnm
  refine v_lv0 [(0, .ref (b 0)), (1, .int k)] rfl ?_
  refine v_aload_n C dX5_delay_0 0 rfl ?_
  refine v_iload_n C dX5_delay_1 1 rfl ?_
  refine v_iconst C 0 dX5_delay_2 (by decide) ?_
  refine v_callMi C l_X5_198 (m_X5_order0 b nj nc wl s0 st nr dn n_fa n_tr n_mi n_at n_rm n_rj n_rc n_nw n_ov n_rl n_kd n_ag n_hS n_iS n_iE n_de n_fr n_ho n_vd n_rw n_we n_fo k (by assumption) (by assumption) (by assumption) (by assumption) (by assumption) (by assumption) (by assumption) (by assumption) (by assumption) (by assumption) (by assumption)) (by decide) dX5_delay_3 [0, 1, 2, 3, 4, 5, 6, 7, 8, 9, 10, 11, 12] [] (wr := []) (by decide) rfl rfl (by decide) (by decide) 0 rfl rfl rfl (rest := []) rfl (Nat.le_of_ble_eq_true rfl) (by decide) (fun r3 w1 h2 => ?_)
  obtain ⟨nw'_4, ov'_5, ho'_6, vd'_7, iE'_8, rl'_9, rw'_10, fo'_11, rfl, rfl⟩ := h2
  refine v_ws0 [oN b n_fa n_tr n_mi (nI nj) (nI nc) (nI wl) n_at n_rm n_rj n_rc nw'_4 ov'_5 rl'_9 (nI nr), ia (b 9) cI 5 n_kd, ia (b 10) cI 5 n_ag, ia (b 11) cB 5 n_hS, ia (b 12) cB 5 n_iS, ia (b 26) cB 5 iE'_8, ia (b 13) cI 5 n_de, ia (b 14) cI 5 n_fr, ia (b 24) cI 5 ho'_6, ia (b 25) cI 6 vd'_7, ia (b 28) cI 5 rw'_10, ia (b 15) cI 5 n_we, ia (b 29) cI 5 fo'_11] rfl ?_
  exact v_reti C hA dX5_delay_6 rfl (⟨_, _, _, _, _, _, _, _, rfl, rfl⟩)
