theorem Tx_of {f : Nat → Int32} {n nj nc : Nat} (h : ffF f n = none) (hc : cfN f n = some (3 + 3 * nj)) (hn : n = 3 + 3 * nj + 4 * nc) : Tx f n nj nc := by
  obtain ⟨j, c, a1, a2, a3, a4, a5, a6, a7, a8⟩ := txt_ok h
  rw [hc] at a6
  have e := Option.some.inj a6
  have e1 : j = nj := by omega
  have e2 : c = nc := by omega
  subst e1
  subst e2
  exact ⟨h, hc, a1, a2, a3, a4, a5, a7, a8⟩
set_option maxHeartbeats 4000000 in
set_option maxRecDepth 100000 in
theorem m_X5_court {l : Launch} {D : va_G} {cI cB cS : ClassId} (b : Nat → Nat) (k g : Nat) (hs sl : Int32) (sc : Nat → Int32) (n_fa : Int32) (n_tr : Int32) (n_mi : Int32) (n_ju : Int32) (n_co : Int32) (n_cr : Int32) (n_at : Int32) (n_rm : Int32) (n_rj : Int32) (n_rc : Int32) (n_nw : Int32) (n_ov : Int32) (n_rl : Int32) (n_rd : Int32) (n_so : Nat → Int32) (n_sl : Nat → Int32) (n_ce : Nat → Int32) (n_rJ : Nat → Int32) (n_rK : Nat → Int32) (n_kd : Nat → Int32) (n_ag : Nat → Int32) (n_hS : Nat → Int32) (n_iS : Nat → Int32) (n_de : Nat → Int32) (n_fr : Nat → Int32) (n_we : Nat → Int32) (q : Int32) (x : Int32) (i : Int32) (n : Int32) (hk : k < 4) (hg : g ≤ 60) (hq : vS q → q = nI k) (hso : n_so k = soF hs sl) (hsn : n_sl k = nI g) (hlv : ¬ hs = 0 → ¬ sl = -9) (hce : ∀ i, i < 60 → n_ce (60 * k + i) = sc i) : Mi l yX5_court cX5_court 8 (some .int) 4 89 D cI cB cS [.ref (b 0), .int q, .int x, .int i, .int n] [oN b n_fa n_tr n_mi n_ju n_co n_cr n_at n_rm n_rj n_rc n_nw n_ov n_rl n_rd, ia (b 2) cI 4 n_so, ia (b 3) cI 4 n_sl, ia (b 4) cI 240 n_ce, ia (b 20) cI 10 n_rJ, ia (b 21) cI 15 n_rK, ia (b 9) cI 5 n_kd, ia (b 10) cI 5 n_ag, ia (b 11) cB 5 n_hS, ia (b 12) cB 5 n_iS, ia (b 13) cI 5 n_de, ia (b 14) cI 5 n_fr, ia (b 15) cI 5 n_we] (fun r w => (¬ (vS q ∧ vL x ∧ focF hs sl (nI g) x i n = 0) ∧ r = coF q x (focF hs sl (nI g) x i n) ∧ w = [oN b (coT q x (focF hs sl (nI g) x i n)) n_tr n_mi n_ju n_co n_cr n_at n_rm n_rj n_rc n_nw n_ov n_rl n_rd, ia (b 2) cI 4 n_so, ia (b 3) cI 4 n_sl, ia (b 4) cI 240 n_ce, ia (b 20) cI 10 n_rJ, ia (b 21) cI 15 n_rK, ia (b 9) cI 5 n_kd, ia (b 10) cI 5 n_ag, ia (b 11) cB 5 n_hS, ia (b 12) cB 5 n_iS, ia (b 13) cI 5 n_de, ia (b 14) cI 5 n_fr, ia (b 15) cI 5 n_we]) ∨ ((vS q ∧ vL x ∧ focF hs sl (nI g) x i n = 0) ∧ ∃ (p : Nat) (at' : Int32) (rm' : Int32) (rj' : Int32) (rc' : Int32) (rJ' : Nat → Int32) (rK' : Nat → Int32), ffF (fun px => sc (zN i + px)) (zN n) = some p ∧ r = -100 - nI p ∧ w = [oN b 0 n_tr n_mi n_ju n_co n_cr at' rm' rj' rc' n_nw n_ov n_rl n_rd, ia (b 2) cI 4 n_so, ia (b 3) cI 4 n_sl, ia (b 4) cI 240 n_ce, ia (b 20) cI 10 rJ', ia (b 21) cI 15 rK', ia (b 9) cI 5 n_kd, ia (b 10) cI 5 n_ag, ia (b 11) cB 5 n_hS, ia (b 12) cB 5 n_iS, ia (b 13) cI 5 n_de, ia (b 14) cI 5 n_fr, ia (b 15) cI 5 n_we]) ∨ ((vS q ∧ vL x ∧ focF hs sl (nI g) x i n = 0) ∧ ∃ (nj' nc' : Nat) (at' : Int32) (rm' : Int32) (rj' : Int32) (rc' : Int32) (rJ' : Nat → Int32) (rK' : Nat → Int32), Tx (fun px => sc (zN i + px)) (zN n) nj' nc' ∧ r = nI nc' ∧ w = [oN b 0 n_tr (tmF (fun px => sc (zN i + px))) (nI nj') (nI nc') 0 at' rm' rj' rc' n_nw n_ov n_rl 0, ia (b 2) cI 4 n_so, ia (b 3) cI 4 n_sl, ia (b 4) cI 240 n_ce, ia (b 20) cI 10 rJ', ia (b 21) cI 15 rK', ia (b 9) cI 5 (tbF (vKd (fun px => sc (zN i + px))) n_kd nj'), ia (b 10) cI 5 (tbF (vAg (fun px => sc (zN i + px))) n_ag nj'), ia (b 11) cB 5 (flF 0 n_hS nj'), ia (b 12) cB 5 (flF 0 n_iS nj'), ia (b 13) cI 5 (tbF (vCa (fun px => sc (zN i + px)) (3 + 3 * nj') 0) n_de nc'), ia (b 14) cI 5 (tbF (vCa (fun px => sc (zN i + px)) (3 + 3 * nj') 1) n_fr nc'), ia (b 15) cI 5 (tbF (vCa (fun px => sc (zN i + px)) (3 + 3 * nj') 2) n_we nc')])) := by
  refine Mi.of (by decide) (Nat.le_of_ble_eq_true rfl) ?_
  intro zp ze zs zm zb zt zc zz zA hA C hnm
  refine v_lv0 [(0, .ref (b 0)), (1, .int q), (2, .int x), (3, .int i), (4, .int n)] rfl ?_
  refine v_aload_n C dX5_court_0 0 rfl ?_
  refine v_iconst C 0 dX5_court_1 (by decide) ?_
  refine v_put C p_X5_68 [oN b 0 n_tr n_mi n_ju n_co n_cr n_at n_rm n_rj n_rc n_nw n_ov n_rl n_rd, ia (b 2) cI 4 n_so, ia (b 3) cI 4 n_sl, ia (b 4) cI 240 n_ce, ia (b 20) cI 10 n_rJ, ia (b 21) cI 15 n_rK, ia (b 9) cI 5 n_kd, ia (b 10) cI 5 n_ag, ia (b 11) cB 5 n_hS, ia (b 12) cB 5 n_iS, ia (b 13) cI 5 n_de, ia (b 14) cI 5 n_fr, ia (b 15) cI 5 n_we] dX5_court_2 0 rfl rfl rfl (Nat.le_of_ble_eq_true rfl) rfl ?_
  refine v_iload_n C dX5_court_5 1 rfl ?_
  refine v_callSi C l_X5_87 (m_X5_isSheet q) (by decide) dX5_court_6 [] rfl rfl (rest := []) rfl (Nat.le_of_ble_eq_true rfl) (by decide) (fun r1 h2 => ?_)
  subst h2
  by_cases c3 : vSb q = true
  · refine v_eqi 1 (bI_t c3) ?_
    have eq := hq c3
    subst eq
    refine v_if_ne C 14 dX5_court_9 (by decide) (fun _ => ?_) (fun h => absurd h (by decide))
    refine v_iload_n C dX5_court_14 2 rfl ?_
    refine v_callSi C l_X5_91 (m_X5_isSort x) (by decide) dX5_court_15 [] rfl rfl (rest := []) rfl (Nat.le_of_ble_eq_true rfl) (by decide) (fun r4 h5 => ?_)
    subst h5
    by_cases c6 : vLb x = true
    · refine v_eqi 1 (bI_t c6) ?_
      refine v_if_ne C 24 dX5_court_18 (by decide) (fun _ => ?_) (fun h => absurd h (by decide))
      refine v_aload_n C dX5_court_24 0 rfl ?_
      refine v_iload_n C dX5_court_25 1 rfl ?_
      refine v_iload_n C dX5_court_26 2 rfl ?_
      refine v_iload_n C dX5_court_27 3 rfl ?_
      refine v_iload C dX5_court_28 4 rfl ?_
      refine v_callRi C l_X5_94 (m_X5_against b k 0 n_tr n_mi n_ju n_co n_cr n_at n_rm n_rj n_rc n_nw n_ov n_rl n_rd n_so n_sl x i n hk) (by decide) dX5_court_30 [0, 1, 2] rfl 0 rfl rfl rfl (rest := []) rfl (Nat.le_of_ble_eq_true rfl) (by decide) (fun r7 h8 => ?_)
      subst h8
      refine v_eqi (focF hs sl (nI g) x i n) (by rw [hso, hsn, ag_foc hlv]) ?_
      refine v_istore C [(5, .int (focF hs sl (nI g) x i n)), (0, .ref (b 0)), (1, .int (nI k)), (2, .int x), (3, .int i), (4, .int n)] dX5_court_33 (by decide) rfl ?_
      refine v_iload C dX5_court_35 0 rfl ?_
      refine v_if_eq C 47 dX5_court_37 (by decide) (fun c9 => ?_) (fun c9 => ?_)
      · obtain ⟨iN, nN, hiN, hnN, hle⟩ := foc_0 hg c9
        have ei : zN i = iN := by rw [hiN]; exact nI_clamp (by omega)
        have en' : zN n = nN := by rw [hnN]; exact nI_clamp (by omega)
        refine v_lv0 [(5, .int (focF hs sl (nI g) x i n)), (0, .ref (b 0)), (1, .int (nI k)), (2, .int x), (3, .int (nI iN)), (4, .int (nI nN))] (by rw [hiN, hnN]) ?_
        have hcg : ∀ px, px < nN → (cw n_ce (60 * k + iN)) px = (fun px => sc (zN i + px)) px := by intro px hpx; rw [ei]; show n_ce (60 * k + iN + px) = sc (iN + px); rw [Nat.add_assoc]; exact hce (iN + px) (by omega)
        refine v_bipush C 60 dX5_court_47 (by decide) ?_
        refine v_iload_n C dX5_court_49 2 rfl ?_
        refine v_imul C dX5_court_50 ?_
        refine v_eqi (nI (60 * k)) (pk_mul 60 k) ?_
        refine v_iload_n C dX5_court_51 4 rfl ?_
        refine v_iadd C dX5_court_52 ?_
        refine v_eqi (nI (60 * k + iN)) (nI_add _ _) ?_
        refine v_istore C [(6, .int (nI (60 * k + iN))), (5, .int (focF hs sl (nI g) x i n)), (0, .ref (b 0)), (1, .int (nI k)), (2, .int x), (3, .int (nI iN)), (4, .int (nI nN))] dX5_court_53 (by decide) rfl ?_
        refine v_aload_n C dX5_court_55 2 rfl ?_
        refine v_iload C dX5_court_56 0 rfl ?_
        refine v_put C p_X5_84 [oN b 0 n_tr n_mi n_ju n_co n_cr (nI (60 * k + iN)) n_rm n_rj n_rc n_nw n_ov n_rl n_rd, ia (b 2) cI 4 n_so, ia (b 3) cI 4 n_sl, ia (b 4) cI 240 n_ce, ia (b 20) cI 10 n_rJ, ia (b 21) cI 15 n_rK, ia (b 9) cI 5 n_kd, ia (b 10) cI 5 n_ag, ia (b 11) cB 5 n_hS, ia (b 12) cB 5 n_iS, ia (b 13) cI 5 n_de, ia (b 14) cI 5 n_fr, ia (b 15) cI 5 n_we] dX5_court_58 0 rfl rfl rfl (Nat.le_of_ble_eq_true rfl) rfl ?_
        refine v_ws0 [oN b 0 n_tr n_mi n_ju n_co n_cr (nI (60 * k + iN + 0)) n_rm n_rj n_rc n_nw n_ov n_rl n_rd, ia (b 2) cI 4 n_so, ia (b 3) cI 4 n_sl, ia (b 4) cI 240 n_ce, ia (b 20) cI 10 n_rJ, ia (b 21) cI 15 n_rK, ia (b 9) cI 5 n_kd, ia (b 10) cI 5 n_ag, ia (b 11) cB 5 n_hS, ia (b 12) cB 5 n_iS, ia (b 13) cI 5 n_de, ia (b 14) cI 5 n_fr, ia (b 15) cI 5 n_we] (by rfl) ?_
        refine v_aload_n C dX5_court_61 2 rfl ?_
        refine v_iload C dX5_court_62 0 rfl ?_
        refine v_iload C dX5_court_64 6 rfl ?_
        refine v_iadd C dX5_court_66 ?_
        refine v_eqi (nI (60 * k + iN + nN)) (nI_add _ _) ?_
        refine v_callMi C l_X5_102 (m_X5_readCourt b (60 * k + iN) nN 0 n_tr n_mi n_ju n_co n_cr n_rm n_rj n_rc n_nw n_ov n_rl n_rd n_ce n_rJ n_rK (by omega)) (by decide) dX5_court_67 [0, 3, 4, 5] [1, 2, 6, 7, 8, 9, 10, 11, 12] (wr := [ia (b 2) cI 4 n_so, ia (b 3) cI 4 n_sl, ia (b 9) cI 5 n_kd, ia (b 10) cI 5 n_ag, ia (b 11) cB 5 n_hS, ia (b 12) cB 5 n_iS, ia (b 13) cI 5 n_de, ia (b 14) cI 5 n_fr, ia (b 15) cI 5 n_we]) (by decide) rfl rfl (by decide) (by decide) 0 rfl rfl rfl (rest := []) rfl (Nat.le_of_ble_eq_true rfl) (by decide) (fun r12 w10 h11 => ?_)
        rcases h11 with ⟨rfl, nj, nc, rJ1, rK1, hG, rfl⟩ | ⟨rfl, pz, rm1, rj1, rc1, rJ1, rK1, hf, rfl⟩
        · refine v_ws0 [ia (b 2) cI 4 n_so, ia (b 3) cI 4 n_sl, ia (b 9) cI 5 n_kd, ia (b 10) cI 5 n_ag, ia (b 11) cB 5 n_hS, ia (b 12) cB 5 n_iS, ia (b 13) cI 5 n_de, ia (b 14) cI 5 n_fr, ia (b 15) cI 5 n_we, oN b 0 n_tr n_mi n_ju n_co n_cr (nI (60 * k + iN + nN)) (tmF (cw n_ce (60 * k + iN))) (nI nj) (nI nc) n_nw n_ov n_rl n_rd, ia (b 4) cI 240 n_ce, ia (b 20) cI 10 rJ1, ia (b 21) cI 15 rK1] rfl ?_
          obtain ⟨g1, g2, g3, g4, g5, hJ, hK⟩ := hG
          refine v_if_ne C 84 dX5_court_70 (by decide) (fun _ => ?_) (fun h => absurd h (by decide))
          refine v_aload_n C dX5_court_84 2 rfl ?_
          refine v_aload_n C dX5_court_85 2 rfl ?_
          refine v_get C f_X5_105 dX5_court_86 9 rfl rfl ?_
          refine v_put C p_X5_108 [ia (b 2) cI 4 n_so, ia (b 3) cI 4 n_sl, ia (b 9) cI 5 n_kd, ia (b 10) cI 5 n_ag, ia (b 11) cB 5 n_hS, ia (b 12) cB 5 n_iS, ia (b 13) cI 5 n_de, ia (b 14) cI 5 n_fr, ia (b 15) cI 5 n_we, oN b 0 n_tr (tmF (cw n_ce (60 * k + iN))) n_ju n_co n_cr (nI (60 * k + iN + nN)) (tmF (cw n_ce (60 * k + iN))) (nI nj) (nI nc) n_nw n_ov n_rl n_rd, ia (b 4) cI 240 n_ce, ia (b 20) cI 10 rJ1, ia (b 21) cI 15 rK1] dX5_court_89 9 rfl rfl rfl (Nat.le_of_ble_eq_true rfl) rfl ?_
          refine v_aload_n C dX5_court_92 2 rfl ?_
          refine v_aload_n C dX5_court_93 2 rfl ?_
          refine v_get C f_X5_111 dX5_court_94 9 rfl rfl ?_
          refine v_put C p_X5_78 [ia (b 2) cI 4 n_so, ia (b 3) cI 4 n_sl, ia (b 9) cI 5 n_kd, ia (b 10) cI 5 n_ag, ia (b 11) cB 5 n_hS, ia (b 12) cB 5 n_iS, ia (b 13) cI 5 n_de, ia (b 14) cI 5 n_fr, ia (b 15) cI 5 n_we, oN b 0 n_tr (tmF (cw n_ce (60 * k + iN))) (nI nj) n_co n_cr (nI (60 * k + iN + nN)) (tmF (cw n_ce (60 * k + iN))) (nI nj) (nI nc) n_nw n_ov n_rl n_rd, ia (b 4) cI 240 n_ce, ia (b 20) cI 10 rJ1, ia (b 21) cI 15 rK1] dX5_court_97 9 rfl rfl rfl (Nat.le_of_ble_eq_true rfl) rfl ?_
          refine v_aload_n C dX5_court_100 2 rfl ?_
          refine v_aload_n C dX5_court_101 2 rfl ?_
          refine v_get C f_X5_114 dX5_court_102 9 rfl rfl ?_
          refine v_put C p_X5_81 [ia (b 2) cI 4 n_so, ia (b 3) cI 4 n_sl, ia (b 9) cI 5 n_kd, ia (b 10) cI 5 n_ag, ia (b 11) cB 5 n_hS, ia (b 12) cB 5 n_iS, ia (b 13) cI 5 n_de, ia (b 14) cI 5 n_fr, ia (b 15) cI 5 n_we, oN b 0 n_tr (tmF (cw n_ce (60 * k + iN))) (nI nj) (nI nc) n_cr (nI (60 * k + iN + nN)) (tmF (cw n_ce (60 * k + iN))) (nI nj) (nI nc) n_nw n_ov n_rl n_rd, ia (b 4) cI 240 n_ce, ia (b 20) cI 10 rJ1, ia (b 21) cI 15 rK1] dX5_court_105 9 rfl rfl rfl (Nat.le_of_ble_eq_true rfl) rfl ?_
          refine v_iconst C 0 dX5_court_108 (by decide) ?_
          refine v_istore C [(7, .int 0), (6, .int (nI (60 * k + iN))), (5, .int (focF hs sl (nI g) x i n)), (0, .ref (b 0)), (1, .int (nI k)), (2, .int x), (3, .int (nI iN)), (4, .int (nI nN))] dX5_court_109 (by decide) rfl ?_
          refine v_perm (ws' := [oN b 0 n_tr (tmF (cw n_ce (60 * k + iN))) (nI nj) (nI nc) n_cr (nI (60 * k + iN + nN)) (tmF (cw n_ce (60 * k + iN))) (nI nj) (nI nc) n_nw n_ov n_rl n_rd, ia (b 2) cI 4 n_so, ia (b 3) cI 4 n_sl, ia (b 4) cI 240 n_ce, ia (b 20) cI 10 rJ1, ia (b 21) cI 15 rK1, ia (b 9) cI 5 n_kd, ia (b 10) cI 5 n_ag, ia (b 11) cB 5 n_hS, ia (b 12) cB 5 n_iS, ia (b 13) cI 5 n_de, ia (b 14) cI 5 n_fr, ia (b 15) cI 5 n_we]) [9, 0, 1, 10, 11, 12, 2, 3, 4, 5, 6, 7, 8] (by decide) rfl ?_
          refine v_ws0 [oN b 0 n_tr (tmF (cw n_ce (60 * k + iN))) (nI nj) (nI nc) n_cr (nI (60 * k + iN + nN)) (tmF (cw n_ce (60 * k + iN))) (nI nj) (nI nc) n_nw n_ov n_rl n_rd, ia (b 2) cI 4 n_so, ia (b 3) cI 4 n_sl, ia (b 4) cI 240 n_ce, ia (b 20) cI 10 rJ1, ia (b 21) cI 15 rK1, ia (b 9) cI 5 (tbF (vKd (cw n_ce (60 * k + iN))) n_kd 0), ia (b 10) cI 5 (tbF (vAg (cw n_ce (60 * k + iN))) n_ag 0), ia (b 11) cB 5 (flF 0 n_hS 0), ia (b 12) cB 5 (flF 0 n_iS 0), ia (b 13) cI 5 n_de, ia (b 14) cI 5 n_fr, ia (b 15) cI 5 n_we] (by rw [tbF_0, tbF_0, flF_0, flF_0]) ?_
          have lp : ∀ (n_14 : Nat) (j : Nat), nj - j < n_14 → (j ≤ nj) → V zp l ze (rmOf 4 89) zs zm [.ref (b 0), .int (nI k), .int x, .int i, .int n].toArray zb zt zc D (IM zA zs) (QMi zb [.ref (b 0), .int (nI k), .int x, .int i, .int n].toArray zs D cI cB cS [oN b n_fa n_tr n_mi n_ju n_co n_cr n_at n_rm n_rj n_rc n_nw n_ov n_rl n_rd, ia (b 2) cI 4 n_so, ia (b 3) cI 4 n_sl, ia (b 4) cI 240 n_ce, ia (b 20) cI 10 n_rJ, ia (b 21) cI 15 n_rK, ia (b 9) cI 5 n_kd, ia (b 10) cI 5 n_ag, ia (b 11) cB 5 n_hS, ia (b 12) cB 5 n_iS, ia (b 13) cI 5 n_de, ia (b 14) cI 5 n_fr, ia (b 15) cI 5 n_we] zz (fun r w => (¬ (vS (nI k) ∧ vL x ∧ focF hs sl (nI g) x i n = 0) ∧ r = coF (nI k) x (focF hs sl (nI g) x i n) ∧ w = [oN b (coT (nI k) x (focF hs sl (nI g) x i n)) n_tr n_mi n_ju n_co n_cr n_at n_rm n_rj n_rc n_nw n_ov n_rl n_rd, ia (b 2) cI 4 n_so, ia (b 3) cI 4 n_sl, ia (b 4) cI 240 n_ce, ia (b 20) cI 10 n_rJ, ia (b 21) cI 15 n_rK, ia (b 9) cI 5 n_kd, ia (b 10) cI 5 n_ag, ia (b 11) cB 5 n_hS, ia (b 12) cB 5 n_iS, ia (b 13) cI 5 n_de, ia (b 14) cI 5 n_fr, ia (b 15) cI 5 n_we]) ∨ ((vS (nI k) ∧ vL x ∧ focF hs sl (nI g) x i n = 0) ∧ ∃ (p : Nat) (at' : Int32) (rm' : Int32) (rj' : Int32) (rc' : Int32) (rJ' : Nat → Int32) (rK' : Nat → Int32), ffF (fun px => sc (zN i + px)) (zN n) = some p ∧ r = -100 - nI p ∧ w = [oN b 0 n_tr n_mi n_ju n_co n_cr at' rm' rj' rc' n_nw n_ov n_rl n_rd, ia (b 2) cI 4 n_so, ia (b 3) cI 4 n_sl, ia (b 4) cI 240 n_ce, ia (b 20) cI 10 rJ', ia (b 21) cI 15 rK', ia (b 9) cI 5 n_kd, ia (b 10) cI 5 n_ag, ia (b 11) cB 5 n_hS, ia (b 12) cB 5 n_iS, ia (b 13) cI 5 n_de, ia (b 14) cI 5 n_fr, ia (b 15) cI 5 n_we]) ∨ ((vS (nI k) ∧ vL x ∧ focF hs sl (nI g) x i n = 0) ∧ ∃ (nj' nc' : Nat) (at' : Int32) (rm' : Int32) (rj' : Int32) (rc' : Int32) (rJ' : Nat → Int32) (rK' : Nat → Int32), Tx (fun px => sc (zN i + px)) (zN n) nj' nc' ∧ r = nI nc' ∧ w = [oN b 0 n_tr (tmF (fun px => sc (zN i + px))) (nI nj') (nI nc') 0 at' rm' rj' rc' n_nw n_ov n_rl 0, ia (b 2) cI 4 n_so, ia (b 3) cI 4 n_sl, ia (b 4) cI 240 n_ce, ia (b 20) cI 10 rJ', ia (b 21) cI 15 rK', ia (b 9) cI 5 (tbF (vKd (fun px => sc (zN i + px))) n_kd nj'), ia (b 10) cI 5 (tbF (vAg (fun px => sc (zN i + px))) n_ag nj'), ia (b 11) cB 5 (flF 0 n_hS nj'), ia (b 12) cB 5 (flF 0 n_iS nj'), ia (b 13) cI 5 (tbF (vCa (fun px => sc (zN i + px)) (3 + 3 * nj') 0) n_de nc'), ia (b 14) cI 5 (tbF (vCa (fun px => sc (zN i + px)) (3 + 3 * nj') 1) n_fr nc'), ia (b 15) cI 5 (tbF (vCa (fun px => sc (zN i + px)) (3 + 3 * nj') 2) n_we nc')]))) 0 0 8 [oN b 0 n_tr (tmF (cw n_ce (60 * k + iN))) (nI nj) (nI nc) n_cr (nI (60 * k + iN + nN)) (tmF (cw n_ce (60 * k + iN))) (nI nj) (nI nc) n_nw n_ov n_rl n_rd, ia (b 2) cI 4 n_so, ia (b 3) cI 4 n_sl, ia (b 4) cI 240 n_ce, ia (b 20) cI 10 rJ1, ia (b 21) cI 15 rK1, ia (b 9) cI 5 (tbF (vKd (cw n_ce (60 * k + iN))) n_kd j), ia (b 10) cI 5 (tbF (vAg (cw n_ce (60 * k + iN))) n_ag j), ia (b 11) cB 5 (flF 0 n_hS j), ia (b 12) cB 5 (flF 0 n_iS j), ia (b 13) cI 5 n_de, ia (b 14) cI 5 n_fr, ia (b 15) cI 5 n_we] [(7, .int (nI j)), (0, .ref (b 0))] 111 [] := by
            intro n_14
            induction n_14 with
            | zero => intro j b13; exact absurd b13 (by omega)
            | succ n_14 ihn_14 =>
              intro j b13 hj
              refine v_iload C dX5_court_111 0 rfl ?_
              refine v_aload_n C dX5_court_113 1 rfl ?_
              refine v_get C f_X5_78 dX5_court_114 0 rfl rfl ?_
              refine v_icmp_ge C 176 dX5_court_117 (by decide) (fun c15 => ?_) (fun c15 => ?_)
              · have nc15 : nj ≤ j := nI_leD c15 (by omega)
                have hje : j = nj := by omega
                refine v_ws0 [oN b 0 n_tr (tmF (cw n_ce (60 * k + iN))) (nI nj) (nI nc) n_cr (nI (60 * k + iN + nN)) (tmF (cw n_ce (60 * k + iN))) (nI nj) (nI nc) n_nw n_ov n_rl n_rd, ia (b 2) cI 4 n_so, ia (b 3) cI 4 n_sl, ia (b 4) cI 240 n_ce, ia (b 20) cI 10 rJ1, ia (b 21) cI 15 rK1, ia (b 9) cI 5 (tbF (vKd (cw n_ce (60 * k + iN))) n_kd nj), ia (b 10) cI 5 (tbF (vAg (cw n_ce (60 * k + iN))) n_ag nj), ia (b 11) cB 5 (flF 0 n_hS nj), ia (b 12) cB 5 (flF 0 n_iS nj), ia (b 13) cI 5 n_de, ia (b 14) cI 5 n_fr, ia (b 15) cI 5 n_we] (by rw [hje]) ?_
                refine v_iconst C 0 dX5_court_176 (by decide) ?_
                refine v_istore C [(7, .int 0), (0, .ref (b 0))] dX5_court_177 (by decide) rfl ?_
                refine v_ws0 [oN b 0 n_tr (tmF (cw n_ce (60 * k + iN))) (nI nj) (nI nc) n_cr (nI (60 * k + iN + nN)) (tmF (cw n_ce (60 * k + iN))) (nI nj) (nI nc) n_nw n_ov n_rl n_rd, ia (b 2) cI 4 n_so, ia (b 3) cI 4 n_sl, ia (b 4) cI 240 n_ce, ia (b 20) cI 10 rJ1, ia (b 21) cI 15 rK1, ia (b 9) cI 5 (tbF (vKd (cw n_ce (60 * k + iN))) n_kd nj), ia (b 10) cI 5 (tbF (vAg (cw n_ce (60 * k + iN))) n_ag nj), ia (b 11) cB 5 (flF 0 n_hS nj), ia (b 12) cB 5 (flF 0 n_iS nj), ia (b 13) cI 5 (tbF (vCa (cw n_ce (60 * k + iN)) (3 + 3 * nj) 0) n_de 0), ia (b 14) cI 5 (tbF (vCa (cw n_ce (60 * k + iN)) (3 + 3 * nj) 1) n_fr 0), ia (b 15) cI 5 (tbF (vCa (cw n_ce (60 * k + iN)) (3 + 3 * nj) 2) n_we 0)] (by rw [tbF_0, tbF_0, tbF_0]) ?_
                have lq : ∀ (n_17 : Nat) (e : Nat), nc - e < n_17 → (e ≤ nc) → V zp l ze (rmOf 4 89) zs zm [.ref (b 0), .int (nI k), .int x, .int i, .int n].toArray zb zt zc D (IM zA zs) (QMi zb [.ref (b 0), .int (nI k), .int x, .int i, .int n].toArray zs D cI cB cS [oN b n_fa n_tr n_mi n_ju n_co n_cr n_at n_rm n_rj n_rc n_nw n_ov n_rl n_rd, ia (b 2) cI 4 n_so, ia (b 3) cI 4 n_sl, ia (b 4) cI 240 n_ce, ia (b 20) cI 10 n_rJ, ia (b 21) cI 15 n_rK, ia (b 9) cI 5 n_kd, ia (b 10) cI 5 n_ag, ia (b 11) cB 5 n_hS, ia (b 12) cB 5 n_iS, ia (b 13) cI 5 n_de, ia (b 14) cI 5 n_fr, ia (b 15) cI 5 n_we] zz (fun r w => (¬ (vS (nI k) ∧ vL x ∧ focF hs sl (nI g) x i n = 0) ∧ r = coF (nI k) x (focF hs sl (nI g) x i n) ∧ w = [oN b (coT (nI k) x (focF hs sl (nI g) x i n)) n_tr n_mi n_ju n_co n_cr n_at n_rm n_rj n_rc n_nw n_ov n_rl n_rd, ia (b 2) cI 4 n_so, ia (b 3) cI 4 n_sl, ia (b 4) cI 240 n_ce, ia (b 20) cI 10 n_rJ, ia (b 21) cI 15 n_rK, ia (b 9) cI 5 n_kd, ia (b 10) cI 5 n_ag, ia (b 11) cB 5 n_hS, ia (b 12) cB 5 n_iS, ia (b 13) cI 5 n_de, ia (b 14) cI 5 n_fr, ia (b 15) cI 5 n_we]) ∨ ((vS (nI k) ∧ vL x ∧ focF hs sl (nI g) x i n = 0) ∧ ∃ (p : Nat) (at' : Int32) (rm' : Int32) (rj' : Int32) (rc' : Int32) (rJ' : Nat → Int32) (rK' : Nat → Int32), ffF (fun px => sc (zN i + px)) (zN n) = some p ∧ r = -100 - nI p ∧ w = [oN b 0 n_tr n_mi n_ju n_co n_cr at' rm' rj' rc' n_nw n_ov n_rl n_rd, ia (b 2) cI 4 n_so, ia (b 3) cI 4 n_sl, ia (b 4) cI 240 n_ce, ia (b 20) cI 10 rJ', ia (b 21) cI 15 rK', ia (b 9) cI 5 n_kd, ia (b 10) cI 5 n_ag, ia (b 11) cB 5 n_hS, ia (b 12) cB 5 n_iS, ia (b 13) cI 5 n_de, ia (b 14) cI 5 n_fr, ia (b 15) cI 5 n_we]) ∨ ((vS (nI k) ∧ vL x ∧ focF hs sl (nI g) x i n = 0) ∧ ∃ (nj' nc' : Nat) (at' : Int32) (rm' : Int32) (rj' : Int32) (rc' : Int32) (rJ' : Nat → Int32) (rK' : Nat → Int32), Tx (fun px => sc (zN i + px)) (zN n) nj' nc' ∧ r = nI nc' ∧ w = [oN b 0 n_tr (tmF (fun px => sc (zN i + px))) (nI nj') (nI nc') 0 at' rm' rj' rc' n_nw n_ov n_rl 0, ia (b 2) cI 4 n_so, ia (b 3) cI 4 n_sl, ia (b 4) cI 240 n_ce, ia (b 20) cI 10 rJ', ia (b 21) cI 15 rK', ia (b 9) cI 5 (tbF (vKd (fun px => sc (zN i + px))) n_kd nj'), ia (b 10) cI 5 (tbF (vAg (fun px => sc (zN i + px))) n_ag nj'), ia (b 11) cB 5 (flF 0 n_hS nj'), ia (b 12) cB 5 (flF 0 n_iS nj'), ia (b 13) cI 5 (tbF (vCa (fun px => sc (zN i + px)) (3 + 3 * nj') 0) n_de nc'), ia (b 14) cI 5 (tbF (vCa (fun px => sc (zN i + px)) (3 + 3 * nj') 1) n_fr nc'), ia (b 15) cI 5 (tbF (vCa (fun px => sc (zN i + px)) (3 + 3 * nj') 2) n_we nc')]))) 0 0 8 [oN b 0 n_tr (tmF (cw n_ce (60 * k + iN))) (nI nj) (nI nc) n_cr (nI (60 * k + iN + nN)) (tmF (cw n_ce (60 * k + iN))) (nI nj) (nI nc) n_nw n_ov n_rl n_rd, ia (b 2) cI 4 n_so, ia (b 3) cI 4 n_sl, ia (b 4) cI 240 n_ce, ia (b 20) cI 10 rJ1, ia (b 21) cI 15 rK1, ia (b 9) cI 5 (tbF (vKd (cw n_ce (60 * k + iN))) n_kd nj), ia (b 10) cI 5 (tbF (vAg (cw n_ce (60 * k + iN))) n_ag nj), ia (b 11) cB 5 (flF 0 n_hS nj), ia (b 12) cB 5 (flF 0 n_iS nj), ia (b 13) cI 5 (tbF (vCa (cw n_ce (60 * k + iN)) (3 + 3 * nj) 0) n_de e), ia (b 14) cI 5 (tbF (vCa (cw n_ce (60 * k + iN)) (3 + 3 * nj) 1) n_fr e), ia (b 15) cI 5 (tbF (vCa (cw n_ce (60 * k + iN)) (3 + 3 * nj) 2) n_we e)] [(7, .int (nI e)), (0, .ref (b 0))] 179 [] := by
                  intro n_17
                  induction n_17 with
                  | zero => intro e b16; exact absurd b16 (by omega)
                  | succ n_17 ihn_17 =>
                    intro e b16 he
                    refine v_iload C dX5_court_179 0 rfl ?_
                    refine v_aload_n C dX5_court_181 1 rfl ?_
                    refine v_get C f_X5_81 dX5_court_182 0 rfl rfl ?_
                    refine v_icmp_ge C 246 dX5_court_185 (by decide) (fun c18 => ?_) (fun c18 => ?_)
                    · have nc18 : nc ≤ e := nI_leD c18 (by omega)
                      have hee : e = nc := by omega
                      refine v_ws0 [oN b 0 n_tr (tmF (cw n_ce (60 * k + iN))) (nI nj) (nI nc) n_cr (nI (60 * k + iN + nN)) (tmF (cw n_ce (60 * k + iN))) (nI nj) (nI nc) n_nw n_ov n_rl n_rd, ia (b 2) cI 4 n_so, ia (b 3) cI 4 n_sl, ia (b 4) cI 240 n_ce, ia (b 20) cI 10 rJ1, ia (b 21) cI 15 rK1, ia (b 9) cI 5 (tbF (vKd (cw n_ce (60 * k + iN))) n_kd nj), ia (b 10) cI 5 (tbF (vAg (cw n_ce (60 * k + iN))) n_ag nj), ia (b 11) cB 5 (flF 0 n_hS nj), ia (b 12) cB 5 (flF 0 n_iS nj), ia (b 13) cI 5 (tbF (vCa (cw n_ce (60 * k + iN)) (3 + 3 * nj) 0) n_de nc), ia (b 14) cI 5 (tbF (vCa (cw n_ce (60 * k + iN)) (3 + 3 * nj) 1) n_fr nc), ia (b 15) cI 5 (tbF (vCa (cw n_ce (60 * k + iN)) (3 + 3 * nj) 2) n_we nc)] (by rw [hee]) ?_
                      refine v_aload_n C dX5_court_246 1 rfl ?_
                      refine v_iconst C 0 dX5_court_247 (by decide) ?_
                      refine v_put C p_X5_117 [oN b 0 n_tr (tmF (cw n_ce (60 * k + iN))) (nI nj) (nI nc) 0 (nI (60 * k + iN + nN)) (tmF (cw n_ce (60 * k + iN))) (nI nj) (nI nc) n_nw n_ov n_rl n_rd, ia (b 2) cI 4 n_so, ia (b 3) cI 4 n_sl, ia (b 4) cI 240 n_ce, ia (b 20) cI 10 rJ1, ia (b 21) cI 15 rK1, ia (b 9) cI 5 (tbF (vKd (cw n_ce (60 * k + iN))) n_kd nj), ia (b 10) cI 5 (tbF (vAg (cw n_ce (60 * k + iN))) n_ag nj), ia (b 11) cB 5 (flF 0 n_hS nj), ia (b 12) cB 5 (flF 0 n_iS nj), ia (b 13) cI 5 (tbF (vCa (cw n_ce (60 * k + iN)) (3 + 3 * nj) 0) n_de nc), ia (b 14) cI 5 (tbF (vCa (cw n_ce (60 * k + iN)) (3 + 3 * nj) 1) n_fr nc), ia (b 15) cI 5 (tbF (vCa (cw n_ce (60 * k + iN)) (3 + 3 * nj) 2) n_we nc)] dX5_court_248 0 rfl rfl rfl (Nat.le_of_ble_eq_true rfl) rfl ?_
                      refine v_aload_n C dX5_court_251 1 rfl ?_
                      refine v_iconst C 0 dX5_court_252 (by decide) ?_
                      refine v_put C p_X5_120 [oN b 0 n_tr (tmF (cw n_ce (60 * k + iN))) (nI nj) (nI nc) 0 (nI (60 * k + iN + nN)) (tmF (cw n_ce (60 * k + iN))) (nI nj) (nI nc) n_nw n_ov n_rl 0, ia (b 2) cI 4 n_so, ia (b 3) cI 4 n_sl, ia (b 4) cI 240 n_ce, ia (b 20) cI 10 rJ1, ia (b 21) cI 15 rK1, ia (b 9) cI 5 (tbF (vKd (cw n_ce (60 * k + iN))) n_kd nj), ia (b 10) cI 5 (tbF (vAg (cw n_ce (60 * k + iN))) n_ag nj), ia (b 11) cB 5 (flF 0 n_hS nj), ia (b 12) cB 5 (flF 0 n_iS nj), ia (b 13) cI 5 (tbF (vCa (cw n_ce (60 * k + iN)) (3 + 3 * nj) 0) n_de nc), ia (b 14) cI 5 (tbF (vCa (cw n_ce (60 * k + iN)) (3 + 3 * nj) 1) n_fr nc), ia (b 15) cI 5 (tbF (vCa (cw n_ce (60 * k + iN)) (3 + 3 * nj) 2) n_we nc)] dX5_court_253 0 rfl rfl rfl (Nat.le_of_ble_eq_true rfl) rfl ?_
                      refine v_aload_n C dX5_court_256 1 rfl ?_
                      refine v_get C f_X5_81 dX5_court_257 0 rfl rfl ?_
                      exact v_reti C hA dX5_court_260 rfl (Or.inr (Or.inr ⟨⟨c3, c6, c9⟩, nj, nc, _, _, _, _, _, _, Tx_of (by rw [en', ← g1]; exact (ffF_cong hcg).symm) (by rw [en', ← g2]; exact (cfN_cong hcg).symm) (by rw [en']; exact g5), rfl, by rw [tm_cong hcg (by omega), tbF_cong (v := vKd _) (fun j hj => kd_cong hcg (by omega)), tbF_cong (v := vAg _) (fun j hj => ag_cong hcg (by omega)), tbF_cong (v := vCa _ _ 0) (fun c hc => ca_cong hcg (by omega)), tbF_cong (v := vCa _ _ 1) (fun c hc => ca_cong hcg (by omega)), tbF_cong (v := vCa _ _ 2) (fun c hc => ca_cong hcg (by omega))]⟩))
                    · have nc18 : e < nc := nI_ltD c18 (by omega)
                      refine v_aload_n C dX5_court_188 1 rfl ?_
                      refine v_get C f_X5_32 dX5_court_189 0 rfl rfl ?_
                      refine v_iload C dX5_court_192 0 rfl ?_
                      refine v_aload_n C dX5_court_194 1 rfl ?_
                      refine v_get C f_X5_44 dX5_court_195 0 rfl rfl ?_
                      refine v_iconst C 3 dX5_court_198 (by decide) ?_
                      refine v_iload C dX5_court_199 0 rfl ?_
                      refine v_imul C dX5_court_201 ?_
                      refine v_eqi (nI (3 * e)) (pk_mul 3 e) ?_
                      refine v_ialdN C dX5_court_202 5 rfl (3 * e) rfl (by omega) (by decide) ?_
                      refine v_eqi (vCa (cw n_ce (60 * k + iN)) (3 + 3 * nj) 0 e) ((hK e (by omega)).1) ?_
                      refine v_iastN C [oN b 0 n_tr (tmF (cw n_ce (60 * k + iN))) (nI nj) (nI nc) n_cr (nI (60 * k + iN + nN)) (tmF (cw n_ce (60 * k + iN))) (nI nj) (nI nc) n_nw n_ov n_rl n_rd, ia (b 2) cI 4 n_so, ia (b 3) cI 4 n_sl, ia (b 4) cI 240 n_ce, ia (b 20) cI 10 rJ1, ia (b 21) cI 15 rK1, ia (b 9) cI 5 (tbF (vKd (cw n_ce (60 * k + iN))) n_kd nj), ia (b 10) cI 5 (tbF (vAg (cw n_ce (60 * k + iN))) n_ag nj), ia (b 11) cB 5 (flF 0 n_hS nj), ia (b 12) cB 5 (flF 0 n_iS nj), ia (b 13) cI 5 (upd (tbF (vCa (cw n_ce (60 * k + iN)) (3 + 3 * nj) 0) n_de e) e (vCa (cw n_ce (60 * k + iN)) (3 + 3 * nj) 0 e)), ia (b 14) cI 5 (tbF (vCa (cw n_ce (60 * k + iN)) (3 + 3 * nj) 1) n_fr e), ia (b 15) cI 5 (tbF (vCa (cw n_ce (60 * k + iN)) (3 + 3 * nj) 2) n_we e)] dX5_court_203 10 rfl e rfl (by omega) (by decide) rfl ?_
                      refine v_aload_n C dX5_court_204 1 rfl ?_
                      refine v_get C f_X5_35 dX5_court_205 0 rfl rfl ?_
                      refine v_iload C dX5_court_208 0 rfl ?_
                      refine v_aload_n C dX5_court_210 1 rfl ?_
                      refine v_get C f_X5_44 dX5_court_211 0 rfl rfl ?_
                      refine v_iconst C 3 dX5_court_214 (by decide) ?_
                      refine v_iload C dX5_court_215 0 rfl ?_
                      refine v_imul C dX5_court_217 ?_
                      refine v_eqi (nI (3 * e)) (pk_mul 3 e) ?_
                      refine v_iconst C 1 dX5_court_218 (by decide) ?_
                      refine v_iadd C dX5_court_219 ?_
                      refine v_eqi (nI (3 * e + 1)) (nI_1 _) ?_
                      refine v_ialdN C dX5_court_220 5 rfl (3 * e + 1) rfl (by omega) (by decide) ?_
                      refine v_eqi (vCa (cw n_ce (60 * k + iN)) (3 + 3 * nj) 1 e) ((hK e (by omega)).2.1) ?_
                      refine v_iastN C [oN b 0 n_tr (tmF (cw n_ce (60 * k + iN))) (nI nj) (nI nc) n_cr (nI (60 * k + iN + nN)) (tmF (cw n_ce (60 * k + iN))) (nI nj) (nI nc) n_nw n_ov n_rl n_rd, ia (b 2) cI 4 n_so, ia (b 3) cI 4 n_sl, ia (b 4) cI 240 n_ce, ia (b 20) cI 10 rJ1, ia (b 21) cI 15 rK1, ia (b 9) cI 5 (tbF (vKd (cw n_ce (60 * k + iN))) n_kd nj), ia (b 10) cI 5 (tbF (vAg (cw n_ce (60 * k + iN))) n_ag nj), ia (b 11) cB 5 (flF 0 n_hS nj), ia (b 12) cB 5 (flF 0 n_iS nj), ia (b 13) cI 5 (upd (tbF (vCa (cw n_ce (60 * k + iN)) (3 + 3 * nj) 0) n_de e) e (vCa (cw n_ce (60 * k + iN)) (3 + 3 * nj) 0 e)), ia (b 14) cI 5 (upd (tbF (vCa (cw n_ce (60 * k + iN)) (3 + 3 * nj) 1) n_fr e) e (vCa (cw n_ce (60 * k + iN)) (3 + 3 * nj) 1 e)), ia (b 15) cI 5 (tbF (vCa (cw n_ce (60 * k + iN)) (3 + 3 * nj) 2) n_we e)] dX5_court_221 11 rfl e rfl (by omega) (by decide) rfl ?_
                      refine v_aload_n C dX5_court_222 1 rfl ?_
                      refine v_get C f_X5_38 dX5_court_223 0 rfl rfl ?_
                      refine v_iload C dX5_court_226 0 rfl ?_
                      refine v_aload_n C dX5_court_228 1 rfl ?_
                      refine v_get C f_X5_44 dX5_court_229 0 rfl rfl ?_
                      refine v_iconst C 3 dX5_court_232 (by decide) ?_
                      refine v_iload C dX5_court_233 0 rfl ?_
                      refine v_imul C dX5_court_235 ?_
                      refine v_eqi (nI (3 * e)) (pk_mul 3 e) ?_
                      refine v_iconst C 2 dX5_court_236 (by decide) ?_
                      refine v_iadd C dX5_court_237 ?_
                      refine v_eqi (nI (3 * e + 2)) (nI_add _ 2) ?_
                      refine v_ialdN C dX5_court_238 5 rfl (3 * e + 2) rfl (by omega) (by decide) ?_
                      refine v_eqi (vCa (cw n_ce (60 * k + iN)) (3 + 3 * nj) 2 e) ((hK e (by omega)).2.2) ?_
                      refine v_iastN C [oN b 0 n_tr (tmF (cw n_ce (60 * k + iN))) (nI nj) (nI nc) n_cr (nI (60 * k + iN + nN)) (tmF (cw n_ce (60 * k + iN))) (nI nj) (nI nc) n_nw n_ov n_rl n_rd, ia (b 2) cI 4 n_so, ia (b 3) cI 4 n_sl, ia (b 4) cI 240 n_ce, ia (b 20) cI 10 rJ1, ia (b 21) cI 15 rK1, ia (b 9) cI 5 (tbF (vKd (cw n_ce (60 * k + iN))) n_kd nj), ia (b 10) cI 5 (tbF (vAg (cw n_ce (60 * k + iN))) n_ag nj), ia (b 11) cB 5 (flF 0 n_hS nj), ia (b 12) cB 5 (flF 0 n_iS nj), ia (b 13) cI 5 (upd (tbF (vCa (cw n_ce (60 * k + iN)) (3 + 3 * nj) 0) n_de e) e (vCa (cw n_ce (60 * k + iN)) (3 + 3 * nj) 0 e)), ia (b 14) cI 5 (upd (tbF (vCa (cw n_ce (60 * k + iN)) (3 + 3 * nj) 1) n_fr e) e (vCa (cw n_ce (60 * k + iN)) (3 + 3 * nj) 1 e)), ia (b 15) cI 5 (upd (tbF (vCa (cw n_ce (60 * k + iN)) (3 + 3 * nj) 2) n_we e) e (vCa (cw n_ce (60 * k + iN)) (3 + 3 * nj) 2 e))] dX5_court_239 12 rfl e rfl (by omega) (by decide) rfl ?_
                      refine v_ws0 [oN b 0 n_tr (tmF (cw n_ce (60 * k + iN))) (nI nj) (nI nc) n_cr (nI (60 * k + iN + nN)) (tmF (cw n_ce (60 * k + iN))) (nI nj) (nI nc) n_nw n_ov n_rl n_rd, ia (b 2) cI 4 n_so, ia (b 3) cI 4 n_sl, ia (b 4) cI 240 n_ce, ia (b 20) cI 10 rJ1, ia (b 21) cI 15 rK1, ia (b 9) cI 5 (tbF (vKd (cw n_ce (60 * k + iN))) n_kd nj), ia (b 10) cI 5 (tbF (vAg (cw n_ce (60 * k + iN))) n_ag nj), ia (b 11) cB 5 (flF 0 n_hS nj), ia (b 12) cB 5 (flF 0 n_iS nj), ia (b 13) cI 5 (tbF (vCa (cw n_ce (60 * k + iN)) (3 + 3 * nj) 0) n_de (e + 1)), ia (b 14) cI 5 (tbF (vCa (cw n_ce (60 * k + iN)) (3 + 3 * nj) 1) n_fr (e + 1)), ia (b 15) cI 5 (tbF (vCa (cw n_ce (60 * k + iN)) (3 + 3 * nj) 2) n_we (e + 1))] (by rw [← tbF_s (vCa (cw n_ce (60 * k + iN)) (3 + 3 * nj) 0), ← tbF_s (vCa (cw n_ce (60 * k + iN)) (3 + 3 * nj) 1), ← tbF_s (vCa (cw n_ce (60 * k + iN)) (3 + 3 * nj) 2)]) ?_
                      refine v_iinc C (nI (e + 1)) [(7, .int (nI (e + 1))), (0, .ref (b 0))] 0 dX5_court_240 rfl (nI_inc _) (by decide) rfl ?_
                      refine v_goto C 179 dX5_court_243 (by decide) ?_
                      exact ihn_17 (e + 1) (by omega) (by omega)
                exact lq (nc - 0 + 1) 0 (by omega) (by omega)
              · have nc15 : j < nj := nI_ltD c15 (by omega)
                refine v_aload_n C dX5_court_120 1 rfl ?_
                refine v_get C f_X5_19 dX5_court_121 0 rfl rfl ?_
                refine v_iload C dX5_court_124 0 rfl ?_
                refine v_aload_n C dX5_court_126 1 rfl ?_
                refine v_get C f_X5_41 dX5_court_127 0 rfl rfl ?_
                refine v_iconst C 2 dX5_court_130 (by decide) ?_
                refine v_iload C dX5_court_131 0 rfl ?_
                refine v_imul C dX5_court_133 ?_
                refine v_eqi (nI (2 * j)) (pk_mul 2 j) ?_
                refine v_ialdN C dX5_court_134 4 rfl (2 * j) rfl (by omega) (by decide) ?_
                refine v_eqi (vKd (cw n_ce (60 * k + iN)) j) ((hJ j (by omega)).1) ?_
                refine v_iastN C [oN b 0 n_tr (tmF (cw n_ce (60 * k + iN))) (nI nj) (nI nc) n_cr (nI (60 * k + iN + nN)) (tmF (cw n_ce (60 * k + iN))) (nI nj) (nI nc) n_nw n_ov n_rl n_rd, ia (b 2) cI 4 n_so, ia (b 3) cI 4 n_sl, ia (b 4) cI 240 n_ce, ia (b 20) cI 10 rJ1, ia (b 21) cI 15 rK1, ia (b 9) cI 5 (upd (tbF (vKd (cw n_ce (60 * k + iN))) n_kd j) j (vKd (cw n_ce (60 * k + iN)) j)), ia (b 10) cI 5 (tbF (vAg (cw n_ce (60 * k + iN))) n_ag j), ia (b 11) cB 5 (flF 0 n_hS j), ia (b 12) cB 5 (flF 0 n_iS j), ia (b 13) cI 5 n_de, ia (b 14) cI 5 n_fr, ia (b 15) cI 5 n_we] dX5_court_135 6 rfl j rfl (by omega) (by decide) rfl ?_
                refine v_aload_n C dX5_court_136 1 rfl ?_
                refine v_get C f_X5_22 dX5_court_137 0 rfl rfl ?_
                refine v_iload C dX5_court_140 0 rfl ?_
                refine v_aload_n C dX5_court_142 1 rfl ?_
                refine v_get C f_X5_41 dX5_court_143 0 rfl rfl ?_
                refine v_iconst C 2 dX5_court_146 (by decide) ?_
                refine v_iload C dX5_court_147 0 rfl ?_
                refine v_imul C dX5_court_149 ?_
                refine v_eqi (nI (2 * j)) (pk_mul 2 j) ?_
                refine v_iconst C 1 dX5_court_150 (by decide) ?_
                refine v_iadd C dX5_court_151 ?_
                refine v_eqi (nI (2 * j + 1)) (nI_1 _) ?_
                refine v_ialdN C dX5_court_152 4 rfl (2 * j + 1) rfl (by omega) (by decide) ?_
                refine v_eqi (vAg (cw n_ce (60 * k + iN)) j) ((hJ j (by omega)).2) ?_
                refine v_iastN C [oN b 0 n_tr (tmF (cw n_ce (60 * k + iN))) (nI nj) (nI nc) n_cr (nI (60 * k + iN + nN)) (tmF (cw n_ce (60 * k + iN))) (nI nj) (nI nc) n_nw n_ov n_rl n_rd, ia (b 2) cI 4 n_so, ia (b 3) cI 4 n_sl, ia (b 4) cI 240 n_ce, ia (b 20) cI 10 rJ1, ia (b 21) cI 15 rK1, ia (b 9) cI 5 (upd (tbF (vKd (cw n_ce (60 * k + iN))) n_kd j) j (vKd (cw n_ce (60 * k + iN)) j)), ia (b 10) cI 5 (upd (tbF (vAg (cw n_ce (60 * k + iN))) n_ag j) j (vAg (cw n_ce (60 * k + iN)) j)), ia (b 11) cB 5 (flF 0 n_hS j), ia (b 12) cB 5 (flF 0 n_iS j), ia (b 13) cI 5 n_de, ia (b 14) cI 5 n_fr, ia (b 15) cI 5 n_we] dX5_court_153 7 rfl j rfl (by omega) (by decide) rfl ?_
                refine v_aload_n C dX5_court_154 1 rfl ?_
                refine v_get C f_X5_25 dX5_court_155 0 rfl rfl ?_
                refine v_iload C dX5_court_158 0 rfl ?_
                refine v_iconst C 0 dX5_court_160 (by decide) ?_
                refine v_zastN C [oN b 0 n_tr (tmF (cw n_ce (60 * k + iN))) (nI nj) (nI nc) n_cr (nI (60 * k + iN + nN)) (tmF (cw n_ce (60 * k + iN))) (nI nj) (nI nc) n_nw n_ov n_rl n_rd, ia (b 2) cI 4 n_so, ia (b 3) cI 4 n_sl, ia (b 4) cI 240 n_ce, ia (b 20) cI 10 rJ1, ia (b 21) cI 15 rK1, ia (b 9) cI 5 (upd (tbF (vKd (cw n_ce (60 * k + iN))) n_kd j) j (vKd (cw n_ce (60 * k + iN)) j)), ia (b 10) cI 5 (upd (tbF (vAg (cw n_ce (60 * k + iN))) n_ag j) j (vAg (cw n_ce (60 * k + iN)) j)), ia (b 11) cB 5 (upd (flF 0 n_hS j) j 0), ia (b 12) cB 5 (flF 0 n_iS j), ia (b 13) cI 5 n_de, ia (b 14) cI 5 n_fr, ia (b 15) cI 5 n_we] dX5_court_161 8 rfl j rfl (by omega) (by decide) rfl rfl ?_
                refine v_aload_n C dX5_court_162 1 rfl ?_
                refine v_get C f_X5_29 dX5_court_163 0 rfl rfl ?_
                refine v_iload C dX5_court_166 0 rfl ?_
                refine v_iconst C 0 dX5_court_168 (by decide) ?_
                refine v_zastN C [oN b 0 n_tr (tmF (cw n_ce (60 * k + iN))) (nI nj) (nI nc) n_cr (nI (60 * k + iN + nN)) (tmF (cw n_ce (60 * k + iN))) (nI nj) (nI nc) n_nw n_ov n_rl n_rd, ia (b 2) cI 4 n_so, ia (b 3) cI 4 n_sl, ia (b 4) cI 240 n_ce, ia (b 20) cI 10 rJ1, ia (b 21) cI 15 rK1, ia (b 9) cI 5 (upd (tbF (vKd (cw n_ce (60 * k + iN))) n_kd j) j (vKd (cw n_ce (60 * k + iN)) j)), ia (b 10) cI 5 (upd (tbF (vAg (cw n_ce (60 * k + iN))) n_ag j) j (vAg (cw n_ce (60 * k + iN)) j)), ia (b 11) cB 5 (upd (flF 0 n_hS j) j 0), ia (b 12) cB 5 (upd (flF 0 n_iS j) j 0), ia (b 13) cI 5 n_de, ia (b 14) cI 5 n_fr, ia (b 15) cI 5 n_we] dX5_court_169 9 rfl j rfl (by omega) (by decide) rfl rfl ?_
                refine v_ws0 [oN b 0 n_tr (tmF (cw n_ce (60 * k + iN))) (nI nj) (nI nc) n_cr (nI (60 * k + iN + nN)) (tmF (cw n_ce (60 * k + iN))) (nI nj) (nI nc) n_nw n_ov n_rl n_rd, ia (b 2) cI 4 n_so, ia (b 3) cI 4 n_sl, ia (b 4) cI 240 n_ce, ia (b 20) cI 10 rJ1, ia (b 21) cI 15 rK1, ia (b 9) cI 5 (tbF (vKd (cw n_ce (60 * k + iN))) n_kd (j + 1)), ia (b 10) cI 5 (tbF (vAg (cw n_ce (60 * k + iN))) n_ag (j + 1)), ia (b 11) cB 5 (flF 0 n_hS (j + 1)), ia (b 12) cB 5 (flF 0 n_iS (j + 1)), ia (b 13) cI 5 n_de, ia (b 14) cI 5 n_fr, ia (b 15) cI 5 n_we] (by rw [← tbF_s (vKd (cw n_ce (60 * k + iN))), ← tbF_s (vAg (cw n_ce (60 * k + iN))), ← flF_s 0 n_hS, ← flF_s 0 n_iS]) ?_
                refine v_iinc C (nI (j + 1)) [(7, .int (nI (j + 1))), (0, .ref (b 0))] 0 dX5_court_170 rfl (nI_inc _) (by decide) rfl ?_
                refine v_goto C 111 dX5_court_173 (by decide) ?_
                exact ihn_14 (j + 1) (by omega) (by omega)
          refine v_loc [0, 3] (lv' := [(7, .int 0), (0, .ref (b 0))]) rfl ?_
          exact lp (nj - 0 + 1) 0 (by omega) (by omega)
        · refine v_ws0 [ia (b 2) cI 4 n_so, ia (b 3) cI 4 n_sl, ia (b 9) cI 5 n_kd, ia (b 10) cI 5 n_ag, ia (b 11) cB 5 n_hS, ia (b 12) cB 5 n_iS, ia (b 13) cI 5 n_de, ia (b 14) cI 5 n_fr, ia (b 15) cI 5 n_we, oN b 0 n_tr n_mi n_ju n_co n_cr (nI (60 * k + iN + pz)) rm1 rj1 rc1 n_nw n_ov n_rl n_rd, ia (b 4) cI 240 n_ce, ia (b 20) cI 10 rJ1, ia (b 21) cI 15 rK1] rfl ?_
          refine v_if_ne C 84 dX5_court_70 (by decide) (fun h => absurd h (by decide)) (fun _ => ?_)
          refine v_bipush C (-100) dX5_court_73 (by decide) ?_
          refine v_aload_n C dX5_court_75 2 rfl ?_
          refine v_get C f_X5_84 dX5_court_76 9 rfl rfl ?_
          refine v_iload C dX5_court_79 0 rfl ?_
          refine v_isub C dX5_court_81 ?_
          refine v_eqi (nI pz) (by rw [pk_sub (by omega), Nat.add_sub_cancel_left]) ?_
          refine v_isub C dX5_court_82 ?_
          refine v_perm (ws' := [oN b 0 n_tr n_mi n_ju n_co n_cr (nI (60 * k + iN + pz)) rm1 rj1 rc1 n_nw n_ov n_rl n_rd, ia (b 2) cI 4 n_so, ia (b 3) cI 4 n_sl, ia (b 4) cI 240 n_ce, ia (b 20) cI 10 rJ1, ia (b 21) cI 15 rK1, ia (b 9) cI 5 n_kd, ia (b 10) cI 5 n_ag, ia (b 11) cB 5 n_hS, ia (b 12) cB 5 n_iS, ia (b 13) cI 5 n_de, ia (b 14) cI 5 n_fr, ia (b 15) cI 5 n_we]) [9, 0, 1, 10, 11, 12, 2, 3, 4, 5, 6, 7, 8] (by decide) rfl ?_
          exact v_reti C hA dX5_court_83 rfl (Or.inr (Or.inl ⟨⟨c3, c6, c9⟩, pz, _, _, _, _, _, _, by rw [en', ← hf]; exact (ffF_cong hcg).symm, rfl, rfl⟩))
      · refine v_aload_n C dX5_court_40 1 rfl ?_
        refine v_iload C dX5_court_41 0 rfl ?_
        refine v_callMi C l_X5_98 (m_X5_fails b 0 n_tr n_mi n_ju n_co n_cr n_at n_rm n_rj n_rc n_nw n_ov n_rl n_rd (focF hs sl (nI g) x i n)) (by decide) dX5_court_43 [0] [1, 2, 3, 4, 5, 6, 7, 8, 9, 10, 11, 12] (wr := [ia (b 2) cI 4 n_so, ia (b 3) cI 4 n_sl, ia (b 4) cI 240 n_ce, ia (b 20) cI 10 n_rJ, ia (b 21) cI 15 n_rK, ia (b 9) cI 5 n_kd, ia (b 10) cI 5 n_ag, ia (b 11) cB 5 n_hS, ia (b 12) cB 5 n_iS, ia (b 13) cI 5 n_de, ia (b 14) cI 5 n_fr, ia (b 15) cI 5 n_we]) (by decide) rfl rfl (by decide) (by decide) 0 rfl rfl rfl (rest := []) rfl (Nat.le_of_ble_eq_true rfl) (by decide) (fun r21 w19 h20 => ?_)
        obtain ⟨rfl, rfl⟩ := h20
        refine v_ws0 [ia (b 2) cI 4 n_so, ia (b 3) cI 4 n_sl, ia (b 4) cI 240 n_ce, ia (b 20) cI 10 n_rJ, ia (b 21) cI 15 n_rK, ia (b 9) cI 5 n_kd, ia (b 10) cI 5 n_ag, ia (b 11) cB 5 n_hS, ia (b 12) cB 5 n_iS, ia (b 13) cI 5 n_de, ia (b 14) cI 5 n_fr, ia (b 15) cI 5 n_we, oN b (focF hs sl (nI g) x i n) n_tr n_mi n_ju n_co n_cr n_at n_rm n_rj n_rc n_nw n_ov n_rl n_rd] rfl ?_
        refine v_perm (ws' := [oN b (focF hs sl (nI g) x i n) n_tr n_mi n_ju n_co n_cr n_at n_rm n_rj n_rc n_nw n_ov n_rl n_rd, ia (b 2) cI 4 n_so, ia (b 3) cI 4 n_sl, ia (b 4) cI 240 n_ce, ia (b 20) cI 10 n_rJ, ia (b 21) cI 15 n_rK, ia (b 9) cI 5 n_kd, ia (b 10) cI 5 n_ag, ia (b 11) cB 5 n_hS, ia (b 12) cB 5 n_iS, ia (b 13) cI 5 n_de, ia (b 14) cI 5 n_fr, ia (b 15) cI 5 n_we]) [12, 0, 1, 2, 3, 4, 5, 6, 7, 8, 9, 10, 11] (by decide) rfl ?_
        exact v_reti C hA dX5_court_46 rfl (Or.inl ⟨by simp [vS, vL, c3, c6, c9], by simp [coF, vS, vL, c3, c6, c9], by simp [coT, vS, vL, c3, c6, c9]⟩)
    · refine v_eqi 0 (bI_f c6) ?_
      refine v_if_ne C 24 dX5_court_18 (by decide) (fun h => absurd h (by decide)) (fun _ => ?_)
      refine v_bipush C (-2) dX5_court_21 (by decide) ?_
      exact v_reti C hA dX5_court_23 rfl (Or.inl ⟨by simp [vS, vL, c3, c6], by simp [coF, vS, vL, c3, c6], by simp [coT, vS, vL, c3, c6]⟩)
  · refine v_eqi 0 (bI_f c3) ?_
    refine v_if_ne C 14 dX5_court_9 (by decide) (fun h => absurd h (by decide)) (fun _ => ?_)
    refine v_iconst C (-1) dX5_court_12 (by decide) ?_
    exact v_reti C hA dX5_court_13 rfl (Or.inl ⟨by simp [vS, vL, c3], by simp [coF, vS, vL, c3], by simp [coT, vS, vL, c3]⟩)
