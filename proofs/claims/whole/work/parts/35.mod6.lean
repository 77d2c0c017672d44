theorem ea_keep {P : Prop} [Decidable P] {f : Nat → Int32} {i : Nat} (h : f i = 0) : (if P then upd f i 0 else f) = f := by
  split
  · exact upd_id f h
  · rfl
set_option maxHeartbeats 4000000 in
set_option maxRecDepth 100000 in
theorem m_X5_codes {l : Launch} {D : va_G} {cI cB cS : ClassId} (b : Nat → Nat) (nj nc wl s0 st nr : Nat) (dn : Nat → Nat) (rn : Nat → Nat) (n_fa : Int32) (n_tr : Int32) (n_mi : Int32) (n_at : Int32) (n_rm : Int32) (n_rj : Int32) (n_rc : Int32) (n_nw : Int32) (n_ov : Int32) (n_rl : Int32) (n_kd : Nat → Int32) (n_ag : Nat → Int32) (n_hS : Nat → Int32) (n_iS : Nat → Int32) (n_iE : Nat → Int32) (n_de : Nat → Int32) (n_fr : Nat → Int32) (n_ho : Nat → Int32) (n_vd : Nat → Int32) (n_rw : Nat → Int32) (n_we : Nat → Int32) (n_rC : Nat → Int32) (n_rH : Nat → Int32) (x : Int32) (hnj : nj ≤ 5) (hnc : nc ≤ 5) (hwl : wl < 64) (hs0 : s0 < 2 ^ nj) (hst2 : st < 2 ^ nj) (hp5 : 2 ^ nj ≤ 32) (hnr : nr ≤ 8) (hhS : ∀ j, j < nj → n_hS j = bA s0 j) (hiS : ∀ j, j < nj → n_iS j = bA st j) (hde : ∀ c, c < nc → n_de c = nI (dn c) ∧ dn c < 6) (hrc : ∀ q, q < nr → n_rC q = nI (rn q) ∧ rn q < nc) : Mi l yX5_codes cX5_codes 7 (some .int) 7 154 D cI cB cS [.ref (b 0), .int x] [oN b n_fa n_tr n_mi (nI nj) (nI nc) (nI wl) n_at n_rm n_rj n_rc n_nw n_ov n_rl (nI nr), ia (b 9) cI 5 n_kd, ia (b 10) cI 5 n_ag, ia (b 11) cB 5 n_hS, ia (b 12) cB 5 n_iS, ia (b 26) cB 5 n_iE, ia (b 13) cI 5 n_de, ia (b 14) cI 5 n_fr, ia (b 24) cI 5 n_ho, ia (b 25) cI 6 n_vd, ia (b 28) cI 5 n_rw, ia (b 15) cI 5 n_we, ia (b 31) cI 8 n_rC, ia (b 32) cI 8 n_rH] (fun r w => ∃ (nw' : Int32) (ov' : Int32) (ho' : Nat → Int32) (vd' : Nat → Int32) (iE' : Nat → Int32) (rl' : Int32) (rw' : Nat → Int32), r = cdF nc (fun yx => arB (sitS nj n_kd n_ag st yx dn n_fr n_we n_mi s0 (fun p => p) nc).1 rn n_rH nr) x ∧ w = [oN b n_fa n_tr n_mi (nI nj) (nI nc) (nI wl) n_at n_rm n_rj n_rc nw' ov' rl' (nI nr), ia (b 9) cI 5 n_kd, ia (b 10) cI 5 n_ag, ia (b 11) cB 5 n_hS, ia (b 12) cB 5 n_iS, ia (b 26) cB 5 iE', ia (b 13) cI 5 n_de, ia (b 14) cI 5 n_fr, ia (b 24) cI 5 ho', ia (b 25) cI 6 vd', ia (b 28) cI 5 rw', ia (b 15) cI 5 n_we, ia (b 31) cI 8 n_rC, ia (b 32) cI 8 n_rH]) := by
  refine Mi.of (by decide) (Nat.le_of_ble_eq_true rfl) ?_
  intro zp ze zs zm zb zt zc zz zA hA C hnm
  refine v_lv0 [(0, .ref (b 0)), (1, .int x)] rfl ?_
  refine v_iload_n C dX5_codes_0 1 rfl ?_
  refine v_iconst C 0 dX5_codes_1 (by decide) ?_
  refine v_iconst C 2 dX5_codes_2 (by decide) ?_
  refine v_callSi C l_X5_74 (m_X5_within x 0 2) (by decide) dX5_codes_3 [] rfl rfl (rest := []) rfl (Nat.le_of_ble_eq_true rfl) (by decide) (fun r1 h2 => ?_)
  subst h2
  by_cases c3 : wib x (0 : Int32) (2 : Int32) = true
  · refine v_eqi 1 (bI_t c3) ?_
    rw [wib_2] at c3
    refine v_if_ne C 12 dX5_codes_6 (by decide) (fun _ => ?_) (fun h => absurd h (by decide))
    refine v_aload_n C dX5_codes_12 0 rfl ?_
    refine v_get C f_X5_81 dX5_codes_13 0 rfl rfl ?_
    refine v_if_ne C 22 dX5_codes_16 (by decide) (fun c4 => ?_) (fun c4 => ?_)
    · have nc4 : nc ≠ 0 := fun q => c4 (by rw [q] <;> rfl)
      have zc5 : ¬ nI nc ≤ 0 := by rw [nc0 hnc]; exact nc4
      have hnc1 : 1 ≤ nc := by omega
      refine v_aload_n C dX5_codes_22 0 rfl ?_
      refine v_get C f_X5_117 dX5_codes_23 0 rfl rfl ?_
      refine v_istore_n C [(2, .int (nI wl)), (0, .ref (b 0)), (1, .int x)] dX5_codes_26 (by decide) rfl ?_
      refine v_iconst C 0 dX5_codes_27 (by decide) ?_
      refine v_istore_n C [(3, .int 0), (2, .int (nI wl)), (0, .ref (b 0)), (1, .int x)] dX5_codes_28 (by decide) rfl ?_
      refine v_bipush C (-9) dX5_codes_29 (by decide) ?_
      refine v_istore C [(4, .int (-9)), (3, .int 0), (2, .int (nI wl)), (0, .ref (b 0)), (1, .int x)] dX5_codes_31 (by decide) rfl ?_
      refine v_bipush C (-9) dX5_codes_33 (by decide) ?_
      refine v_istore C [(5, .int (-9)), (4, .int (-9)), (3, .int 0), (2, .int (nI wl)), (0, .ref (b 0)), (1, .int x)] dX5_codes_35 (by decide) rfl ?_
      refine v_iconst C 0 dX5_codes_37 (by decide) ?_
      refine v_istore C [(6, .int 0), (5, .int (-9)), (4, .int (-9)), (3, .int 0), (2, .int (nI wl)), (0, .ref (b 0)), (1, .int x)] dX5_codes_38 (by decide) rfl ?_
      have lp : ∀ (n_7 : Nat) (y : Nat) (cn : Nat) (le : Int32) (fe : Int32) (cr1 : Int32) (nw1 : Int32) (ov1 : Int32) (ho1 : Nat → Int32) (vd1 : Nat → Int32) (iE1 : Nat → Int32) (rl1 : Int32) (rw1 : Nat → Int32), 64 - y < n_7 → (y ≤ 64 ∧ cn ≤ y) → (cdS (fun yx => arB (sitS nj n_kd n_ag st yx dn n_fr n_we n_mi s0 (fun p => p) nc).1 rn n_rH nr) y = (cn, le, fe)) → (cn = 0 ↔ le = -9) → (fe = -9 ∨ ∃ f, f < 64 ∧ fe = nI f) → V zp l ze (rmOf 7 154) zs zm [.ref (b 0), .int x].toArray zb zt zc D (IM zA zs) (QMi zb [.ref (b 0), .int x].toArray zs D cI cB cS [oN b n_fa n_tr n_mi (nI nj) (nI nc) (nI wl) n_at n_rm n_rj n_rc n_nw n_ov n_rl (nI nr), ia (b 9) cI 5 n_kd, ia (b 10) cI 5 n_ag, ia (b 11) cB 5 n_hS, ia (b 12) cB 5 n_iS, ia (b 26) cB 5 n_iE, ia (b 13) cI 5 n_de, ia (b 14) cI 5 n_fr, ia (b 24) cI 5 n_ho, ia (b 25) cI 6 n_vd, ia (b 28) cI 5 n_rw, ia (b 15) cI 5 n_we, ia (b 31) cI 8 n_rC, ia (b 32) cI 8 n_rH] zz (fun r w => ∃ (nw' : Int32) (ov' : Int32) (ho' : Nat → Int32) (vd' : Nat → Int32) (iE' : Nat → Int32) (rl' : Int32) (rw' : Nat → Int32), r = cdF nc (fun yx => arB (sitS nj n_kd n_ag st yx dn n_fr n_we n_mi s0 (fun p => p) nc).1 rn n_rH nr) x ∧ w = [oN b n_fa n_tr n_mi (nI nj) (nI nc) (nI wl) n_at n_rm n_rj n_rc nw' ov' rl' (nI nr), ia (b 9) cI 5 n_kd, ia (b 10) cI 5 n_ag, ia (b 11) cB 5 n_hS, ia (b 12) cB 5 n_iS, ia (b 26) cB 5 iE', ia (b 13) cI 5 n_de, ia (b 14) cI 5 n_fr, ia (b 24) cI 5 ho', ia (b 25) cI 6 vd', ia (b 28) cI 5 rw', ia (b 15) cI 5 n_we, ia (b 31) cI 8 n_rC, ia (b 32) cI 8 n_rH])) 0 0 7 [oN b n_fa n_tr n_mi (nI nj) (nI nc) cr1 n_at n_rm n_rj n_rc nw1 ov1 rl1 (nI nr), ia (b 9) cI 5 n_kd, ia (b 10) cI 5 n_ag, ia (b 11) cB 5 n_hS, ia (b 12) cB 5 n_iS, ia (b 26) cB 5 iE1, ia (b 13) cI 5 n_de, ia (b 14) cI 5 n_fr, ia (b 24) cI 5 ho1, ia (b 25) cI 6 vd1, ia (b 28) cI 5 rw1, ia (b 15) cI 5 n_we, ia (b 31) cI 8 n_rC, ia (b 32) cI 8 n_rH] [(6, .int (nI y)), (5, .int fe), (4, .int le), (3, .int (nI cn)), (2, .int (nI wl)), (0, .ref (b 0)), (1, .int x)] 40 [] := by
        intro n_7
        induction n_7 with
        | zero => intro y cn le fe cr1 nw1 ov1 ho1 vd1 iE1 rl1 rw1 b6; exact absurd b6 (by omega)
        | succ n_7 ihn_7 =>
          intro y cn le fe cr1 nw1 ov1 ho1 vd1 iE1 rl1 rw1 b6 hy hcd hle hfe
          refine v_iload C dX5_codes_40 0 rfl ?_
          refine v_bipush C 64 dX5_codes_42 (by decide) ?_
          refine v_icmp_ge C 111 dX5_codes_44 (by decide) (fun c8 => ?_) (fun c8 => ?_)
          · have nc8 : 64 ≤ y := nI_leD c8 (by omega)
            have hye : y = 64 := by omega
            rw [hye] at hcd
            refine v_aload_n C dX5_codes_111 5 rfl ?_
            refine v_iload_n C dX5_codes_112 4 rfl ?_
            refine v_put C p_X5_117 [oN b n_fa n_tr n_mi (nI nj) (nI nc) (nI wl) n_at n_rm n_rj n_rc nw1 ov1 rl1 (nI nr), ia (b 9) cI 5 n_kd, ia (b 10) cI 5 n_ag, ia (b 11) cB 5 n_hS, ia (b 12) cB 5 n_iS, ia (b 26) cB 5 iE1, ia (b 13) cI 5 n_de, ia (b 14) cI 5 n_fr, ia (b 24) cI 5 ho1, ia (b 25) cI 6 vd1, ia (b 28) cI 5 rw1, ia (b 15) cI 5 n_we, ia (b 31) cI 8 n_rC, ia (b 32) cI 8 n_rH] dX5_codes_113 0 rfl rfl rfl (Nat.le_of_ble_eq_true rfl) rfl ?_
            refine v_iload_n C dX5_codes_116 6 rfl ?_
            refine v_if_ne C 124 dX5_codes_117 (by decide) (fun c9 => ?_) (fun c9 => ?_)
            · refine v_iload_n C dX5_codes_124 6 rfl ?_
              refine v_iconst C 1 dX5_codes_125 (by decide) ?_
              refine v_icmp_ne C 134 dX5_codes_126 (by decide) (fun c10 => ?_) (fun c10 => ?_)
              · refine v_iload C dX5_codes_134 1 rfl ?_
                exact v_reti C hA dX5_codes_136 rfl (⟨_, _, _, _, _, _, _, by first | (simp only [cdF, hcd, c3, c4, nc4, nc4, zc5, c8, nc8, Nat.not_lt.mpr nc8, c9, c10, not_false_eq_true, not_true_eq_false, and_self, and_true, true_and, and_false, false_and, ↓reduceIte]; done) | (simp [cdF, hcd, c3, c4, nc4, nc4, zc5, c8, nc8, Nat.not_lt.mpr nc8, c9, c10]; done), rfl⟩)
              · refine v_iload C dX5_codes_129 2 rfl ?_
                refine v_goto C 136 dX5_codes_131 (by decide) ?_
                exact v_reti C hA dX5_codes_136 rfl (⟨_, _, _, _, _, _, _, by first | (simp only [cdF, hcd, c3, c4, nc4, nc4, zc5, c8, nc8, Nat.not_lt.mpr nc8, c9, c10, not_false_eq_true, not_true_eq_false, and_self, and_true, true_and, and_false, false_and, ↓reduceIte]; done) | (simp [cdF, hcd, c3, c4, nc4, nc4, zc5, c8, nc8, Nat.not_lt.mpr nc8, c9, c10]; done), rfl⟩)
            · refine v_iload_n C dX5_codes_120 3 rfl ?_
              refine v_goto C 136 dX5_codes_121 (by decide) ?_
              exact v_reti C hA dX5_codes_136 rfl (⟨_, _, _, _, _, _, _, by first | (simp only [cdF, hcd, c3, c4, nc4, nc4, zc5, c8, nc8, Nat.not_lt.mpr nc8, c9, not_false_eq_true, not_true_eq_false, and_self, and_true, true_and, and_false, false_and, ↓reduceIte]; done) | (simp [cdF, hcd, c3, c4, nc4, nc4, zc5, c8, nc8, Nat.not_lt.mpr nc8, c9]; done), rfl⟩)
          · have nc8 : y < 64 := nI_ltD c8 (by omega)
            refine v_aload_n C dX5_codes_47 5 rfl ?_
            refine v_iload C dX5_codes_48 0 rfl ?_
            refine v_put C p_X5_117 [oN b n_fa n_tr n_mi (nI nj) (nI nc) (nI y) n_at n_rm n_rj n_rc nw1 ov1 rl1 (nI nr), ia (b 9) cI 5 n_kd, ia (b 10) cI 5 n_ag, ia (b 11) cB 5 n_hS, ia (b 12) cB 5 n_iS, ia (b 26) cB 5 iE1, ia (b 13) cI 5 n_de, ia (b 14) cI 5 n_fr, ia (b 24) cI 5 ho1, ia (b 25) cI 6 vd1, ia (b 28) cI 5 rw1, ia (b 15) cI 5 n_we, ia (b 31) cI 8 n_rC, ia (b 32) cI 8 n_rH] dX5_codes_50 0 rfl rfl rfl (Nat.le_of_ble_eq_true rfl) rfl ?_
            refine v_aload_n C dX5_codes_53 5 rfl ?_
            refine v_callMi C l_X5_217 (m_X5_areSo b y nj nc s0 st nr dn rn n_fa n_tr n_mi n_at n_rm n_rj n_rc nw1 ov1 rl1 n_kd n_ag n_hS n_iS iE1 n_de n_fr ho1 vd1 rw1 n_we n_rC n_rH (by omega) (by assumption) (by assumption) (by assumption) (by assumption) (by assumption) (by assumption) (by assumption)) (by decide) dX5_codes_54 [0, 1, 2, 3, 4, 5, 6, 7, 8, 9, 10, 11, 12, 13] [] (wr := []) (by decide) rfl rfl (by decide) (by decide) 0 rfl rfl rfl (rest := []) rfl (Nat.le_of_ble_eq_true rfl) (by decide) (fun r13 w11 h12 => ?_)
            obtain ⟨nw'_14, ov'_15, ho'_16, vd'_17, iE'_18, rl'_19, rw'_20, rfl, rfl⟩ := h12
            refine v_ws0 [oN b n_fa n_tr n_mi (nI nj) (nI nc) (nI y) n_at n_rm n_rj n_rc nw'_14 ov'_15 rl'_19 (nI nr), ia (b 9) cI 5 n_kd, ia (b 10) cI 5 n_ag, ia (b 11) cB 5 n_hS, ia (b 12) cB 5 n_iS, ia (b 26) cB 5 iE'_18, ia (b 13) cI 5 n_de, ia (b 14) cI 5 n_fr, ia (b 24) cI 5 ho'_16, ia (b 25) cI 6 vd'_17, ia (b 28) cI 5 rw'_20, ia (b 15) cI 5 n_we, ia (b 31) cI 8 n_rC, ia (b 32) cI 8 n_rH] rfl ?_
            by_cases c21 : arB (sitS nj n_kd n_ag st y dn n_fr n_we n_mi s0 (fun p => p) nc).1 rn n_rH nr = true
            · refine v_eqi 1 (bI_t c21) ?_
              refine v_if_eq C 105 dX5_codes_57 (by decide) (fun h => absurd h (by decide)) (fun _ => ?_)
              refine v_iload_n C dX5_codes_60 3 rfl ?_
              refine v_if_ne C 69 dX5_codes_61 (by decide) (fun c22 => ?_) (fun c22 => ?_)
              · have nc22 : cn ≠ 0 := fun q => c22 (by rw [q] <;> rfl)
                have hcn : ¬ le = -9 := by rw [← hle]; exact nc22
                refine v_iload C dX5_codes_69 2 rfl ?_
                refine v_istore C [(4, .int le), (6, .int (nI y)), (5, .int fe), (3, .int (nI cn)), (2, .int (nI wl)), (0, .ref (b 0)), (1, .int x)] dX5_codes_71 (by decide) rfl ?_
                refine v_iload C dX5_codes_73 2 rfl ?_
                refine v_bipush C (-9) dX5_codes_75 (by decide) ?_
                refine v_icmp_eq C 93 dX5_codes_77 (by decide) (fun c23 => ?_) (fun c23 => ?_)
                · refine v_iload C dX5_codes_93 1 rfl ?_
                  refine v_goto C 100 dX5_codes_95 (by decide) ?_
                  refine v_istore C [(5, .int (nI y)), (4, .int le), (6, .int (nI y)), (3, .int (nI cn)), (2, .int (nI wl)), (0, .ref (b 0)), (1, .int x)] dX5_codes_100 (by decide) rfl ?_
                  refine v_iinc C (nI (cn + 1)) [(3, .int (nI (cn + 1))), (5, .int (nI y)), (4, .int le), (6, .int (nI y)), (2, .int (nI wl)), (0, .ref (b 0)), (1, .int x)] 3 dX5_codes_102 rfl (nI_inc _) (by decide) rfl ?_
                  refine v_iinc C (nI (y + 1)) [(6, .int (nI (y + 1))), (3, .int (nI (cn + 1))), (5, .int (nI y)), (4, .int le), (2, .int (nI wl)), (0, .ref (b 0)), (1, .int x)] 3 dX5_codes_105 rfl (nI_inc _) (by decide) rfl ?_
                  refine v_goto C 40 dX5_codes_108 (by decide) ?_
                  refine v_loc [0, 2, 3, 1, 4, 5, 6] (lv' := [(6, .int (nI (y + 1))), (5, .int (nI y)), (4, .int le), (3, .int (nI (cn + 1))), (2, .int (nI wl)), (0, .ref (b 0)), (1, .int x)]) rfl ?_
                  exact ihn_7 (y + 1) (cn + 1) le (nI y) (nI y) nw'_14 ov'_15 ho'_16 vd'_17 iE'_18 rl'_19 rw'_20 (by omega) (by omega) (by rw [cdS, if_pos c21, hcd]; dsimp only; rw [if_neg hcn, if_pos (Or.inl c23)]) (iff_of_false (by omega) hcn) (Or.inr ⟨y, by omega, rfl⟩)
                · obtain ⟨f, hf, hfe⟩ := hfe.resolve_left c23
                  subst hfe
                  have hp1 := pcN_le f
                  have hp2 := pcN_le y
                  refine v_iload C dX5_codes_80 1 rfl ?_
                  refine v_callSi C l_X5_205 (m_X5_size y (by omega)) (by decide) dX5_codes_82 [] rfl rfl (rest := []) rfl (Nat.le_of_ble_eq_true rfl) (by decide) (fun r24 h25 => ?_)
                  subst h25
                  refine v_iload C dX5_codes_85 2 rfl ?_
                  refine v_callSi C l_X5_205 (m_X5_size f (by omega)) (by decide) dX5_codes_87 [] rfl rfl (rest := [.int (nI (pcN y))]) rfl (Nat.le_of_ble_eq_true rfl) (by decide) (fun r26 h27 => ?_)
                  subst h27
                  refine v_icmp_ge C 98 dX5_codes_90 (by decide) (fun c28 => ?_) (fun c28 => ?_)
                  · have nc28 : (pcN f) ≤ (pcN y) := nI_leD c28 (by omega)
                    refine v_iload C dX5_codes_98 2 rfl ?_
                    refine v_istore C [(5, .int (nI f)), (4, .int le), (6, .int (nI y)), (3, .int (nI cn)), (2, .int (nI wl)), (0, .ref (b 0)), (1, .int x)] dX5_codes_100 (by decide) rfl ?_
                    refine v_iinc C (nI (cn + 1)) [(3, .int (nI (cn + 1))), (5, .int (nI f)), (4, .int le), (6, .int (nI y)), (2, .int (nI wl)), (0, .ref (b 0)), (1, .int x)] 3 dX5_codes_102 rfl (nI_inc _) (by decide) rfl ?_
                    refine v_iinc C (nI (y + 1)) [(6, .int (nI (y + 1))), (3, .int (nI (cn + 1))), (5, .int (nI f)), (4, .int le), (2, .int (nI wl)), (0, .ref (b 0)), (1, .int x)] 3 dX5_codes_105 rfl (nI_inc _) (by decide) rfl ?_
                    refine v_goto C 40 dX5_codes_108 (by decide) ?_
                    refine v_loc [0, 2, 3, 1, 4, 5, 6] (lv' := [(6, .int (nI (y + 1))), (5, .int (nI f)), (4, .int le), (3, .int (nI (cn + 1))), (2, .int (nI wl)), (0, .ref (b 0)), (1, .int x)]) rfl ?_
                    exact ihn_7 (y + 1) (cn + 1) le (nI f) (nI y) nw'_14 ov'_15 ho'_16 vd'_17 iE'_18 rl'_19 rw'_20 (by omega) (by omega) (by rw [cdS, if_pos c21, hcd]; dsimp only; rw [if_neg hcn, if_neg (fun q => q.elim (fun q => c23 q) (fun q => q (by rw [raw_bc f hf, raw_bc y (by omega)]; exact c28)))]) (iff_of_false (by omega) hcn) (Or.inr ⟨f, hf, rfl⟩)
                  · have nc28 : (pcN y) < (pcN f) := nI_ltD c28 (by omega)
                    refine v_iload C dX5_codes_93 1 rfl ?_
                    refine v_goto C 100 dX5_codes_95 (by decide) ?_
                    refine v_istore C [(5, .int (nI y)), (4, .int le), (6, .int (nI y)), (3, .int (nI cn)), (2, .int (nI wl)), (0, .ref (b 0)), (1, .int x)] dX5_codes_100 (by decide) rfl ?_
                    refine v_iinc C (nI (cn + 1)) [(3, .int (nI (cn + 1))), (5, .int (nI y)), (4, .int le), (6, .int (nI y)), (2, .int (nI wl)), (0, .ref (b 0)), (1, .int x)] 3 dX5_codes_102 rfl (nI_inc _) (by decide) rfl ?_
                    refine v_iinc C (nI (y + 1)) [(6, .int (nI (y + 1))), (3, .int (nI (cn + 1))), (5, .int (nI y)), (4, .int le), (2, .int (nI wl)), (0, .ref (b 0)), (1, .int x)] 3 dX5_codes_105 rfl (nI_inc _) (by decide) rfl ?_
                    refine v_goto C 40 dX5_codes_108 (by decide) ?_
                    refine v_loc [0, 2, 3, 1, 4, 5, 6] (lv' := [(6, .int (nI (y + 1))), (5, .int (nI y)), (4, .int le), (3, .int (nI (cn + 1))), (2, .int (nI wl)), (0, .ref (b 0)), (1, .int x)]) rfl ?_
                    exact ihn_7 (y + 1) (cn + 1) le (nI y) (nI y) nw'_14 ov'_15 ho'_16 vd'_17 iE'_18 rl'_19 rw'_20 (by omega) (by omega) (by rw [cdS, if_pos c21, hcd]; dsimp only; rw [if_neg hcn, if_pos (Or.inr (by rw [raw_bc f hf, raw_bc y (by omega)]; exact c28))]) (iff_of_false (by omega) hcn) (Or.inr ⟨y, by omega, rfl⟩)
              · have nc22 : cn = 0 := nI_eqP c22 (by omega) (by omega)
                have hcn : le = -9 := by rw [← hle]; exact nc22
                refine v_iload C dX5_codes_64 0 rfl ?_
                refine v_goto C 71 dX5_codes_66 (by decide) ?_
                refine v_istore C [(4, .int (nI y)), (6, .int (nI y)), (5, .int fe), (3, .int (nI cn)), (2, .int (nI wl)), (0, .ref (b 0)), (1, .int x)] dX5_codes_71 (by decide) rfl ?_
                refine v_iload C dX5_codes_73 2 rfl ?_
                refine v_bipush C (-9) dX5_codes_75 (by decide) ?_
                refine v_icmp_eq C 93 dX5_codes_77 (by decide) (fun c29 => ?_) (fun c29 => ?_)
                · refine v_iload C dX5_codes_93 1 rfl ?_
                  refine v_goto C 100 dX5_codes_95 (by decide) ?_
                  refine v_istore C [(5, .int (nI y)), (4, .int (nI y)), (6, .int (nI y)), (3, .int (nI cn)), (2, .int (nI wl)), (0, .ref (b 0)), (1, .int x)] dX5_codes_100 (by decide) rfl ?_
                  refine v_iinc C (nI (cn + 1)) [(3, .int (nI (cn + 1))), (5, .int (nI y)), (4, .int (nI y)), (6, .int (nI y)), (2, .int (nI wl)), (0, .ref (b 0)), (1, .int x)] 3 dX5_codes_102 rfl (nI_inc _) (by decide) rfl ?_
                  refine v_iinc C (nI (y + 1)) [(6, .int (nI (y + 1))), (3, .int (nI (cn + 1))), (5, .int (nI y)), (4, .int (nI y)), (2, .int (nI wl)), (0, .ref (b 0)), (1, .int x)] 3 dX5_codes_105 rfl (nI_inc _) (by decide) rfl ?_
                  refine v_goto C 40 dX5_codes_108 (by decide) ?_
                  refine v_loc [0, 2, 3, 1, 4, 5, 6] (lv' := [(6, .int (nI (y + 1))), (5, .int (nI y)), (4, .int (nI y)), (3, .int (nI (cn + 1))), (2, .int (nI wl)), (0, .ref (b 0)), (1, .int x)]) rfl ?_
                  exact ihn_7 (y + 1) (cn + 1) (nI y) (nI y) (nI y) nw'_14 ov'_15 ho'_16 vd'_17 iE'_18 rl'_19 rw'_20 (by omega) (by omega) (by rw [cdS, if_pos c21, hcd]; dsimp only; rw [if_pos hcn, if_pos (Or.inl c29)]) (iff_of_false (by omega) (nI_ne9 (by omega))) (Or.inr ⟨y, by omega, rfl⟩)
                · obtain ⟨f, hf, hfe⟩ := hfe.resolve_left c29
                  subst hfe
                  have hp1 := pcN_le f
                  have hp2 := pcN_le y
                  refine v_iload C dX5_codes_80 1 rfl ?_
                  refine v_callSi C l_X5_205 (m_X5_size y (by omega)) (by decide) dX5_codes_82 [] rfl rfl (rest := []) rfl (Nat.le_of_ble_eq_true rfl) (by decide) (fun r30 h31 => ?_)
                  subst h31
                  refine v_iload C dX5_codes_85 2 rfl ?_
                  refine v_callSi C l_X5_205 (m_X5_size f (by omega)) (by decide) dX5_codes_87 [] rfl rfl (rest := [.int (nI (pcN y))]) rfl (Nat.le_of_ble_eq_true rfl) (by decide) (fun r32 h33 => ?_)
                  subst h33
                  refine v_icmp_ge C 98 dX5_codes_90 (by decide) (fun c34 => ?_) (fun c34 => ?_)
                  · have nc34 : (pcN f) ≤ (pcN y) := nI_leD c34 (by omega)
                    refine v_iload C dX5_codes_98 2 rfl ?_
                    refine v_istore C [(5, .int (nI f)), (4, .int (nI y)), (6, .int (nI y)), (3, .int (nI cn)), (2, .int (nI wl)), (0, .ref (b 0)), (1, .int x)] dX5_codes_100 (by decide) rfl ?_
                    refine v_iinc C (nI (cn + 1)) [(3, .int (nI (cn + 1))), (5, .int (nI f)), (4, .int (nI y)), (6, .int (nI y)), (2, .int (nI wl)), (0, .ref (b 0)), (1, .int x)] 3 dX5_codes_102 rfl (nI_inc _) (by decide) rfl ?_
                    refine v_iinc C (nI (y + 1)) [(6, .int (nI (y + 1))), (3, .int (nI (cn + 1))), (5, .int (nI f)), (4, .int (nI y)), (2, .int (nI wl)), (0, .ref (b 0)), (1, .int x)] 3 dX5_codes_105 rfl (nI_inc _) (by decide) rfl ?_
                    refine v_goto C 40 dX5_codes_108 (by decide) ?_
                    refine v_loc [0, 2, 3, 1, 4, 5, 6] (lv' := [(6, .int (nI (y + 1))), (5, .int (nI f)), (4, .int (nI y)), (3, .int (nI (cn + 1))), (2, .int (nI wl)), (0, .ref (b 0)), (1, .int x)]) rfl ?_
                    exact ihn_7 (y + 1) (cn + 1) (nI y) (nI f) (nI y) nw'_14 ov'_15 ho'_16 vd'_17 iE'_18 rl'_19 rw'_20 (by omega) (by omega) (by rw [cdS, if_pos c21, hcd]; dsimp only; rw [if_pos hcn, if_neg (fun q => q.elim (fun q => c29 q) (fun q => q (by rw [raw_bc f hf, raw_bc y (by omega)]; exact c34)))]) (iff_of_false (by omega) (nI_ne9 (by omega))) (Or.inr ⟨f, hf, rfl⟩)
                  · have nc34 : (pcN y) < (pcN f) := nI_ltD c34 (by omega)
                    refine v_iload C dX5_codes_93 1 rfl ?_
                    refine v_goto C 100 dX5_codes_95 (by decide) ?_
                    refine v_istore C [(5, .int (nI y)), (4, .int (nI y)), (6, .int (nI y)), (3, .int (nI cn)), (2, .int (nI wl)), (0, .ref (b 0)), (1, .int x)] dX5_codes_100 (by decide) rfl ?_
                    refine v_iinc C (nI (cn + 1)) [(3, .int (nI (cn + 1))), (5, .int (nI y)), (4, .int (nI y)), (6, .int (nI y)), (2, .int (nI wl)), (0, .ref (b 0)), (1, .int x)] 3 dX5_codes_102 rfl (nI_inc _) (by decide) rfl ?_
                    refine v_iinc C (nI (y + 1)) [(6, .int (nI (y + 1))), (3, .int (nI (cn + 1))), (5, .int (nI y)), (4, .int (nI y)), (2, .int (nI wl)), (0, .ref (b 0)), (1, .int x)] 3 dX5_codes_105 rfl (nI_inc _) (by decide) rfl ?_
                    refine v_goto C 40 dX5_codes_108 (by decide) ?_
                    refine v_loc [0, 2, 3, 1, 4, 5, 6] (lv' := [(6, .int (nI (y + 1))), (5, .int (nI y)), (4, .int (nI y)), (3, .int (nI (cn + 1))), (2, .int (nI wl)), (0, .ref (b 0)), (1, .int x)]) rfl ?_
                    exact ihn_7 (y + 1) (cn + 1) (nI y) (nI y) (nI y) nw'_14 ov'_15 ho'_16 vd'_17 iE'_18 rl'_19 rw'_20 (by omega) (by omega) (by rw [cdS, if_pos c21, hcd]; dsimp only; rw [if_pos hcn, if_pos (Or.inr (by rw [raw_bc f hf, raw_bc y (by omega)]; exact c34))]) (iff_of_false (by omega) (nI_ne9 (by omega))) (Or.inr ⟨y, by omega, rfl⟩)
            · refine v_eqi 0 (bI_f c21) ?_
              refine v_if_eq C 105 dX5_codes_57 (by decide) (fun _ => ?_) (fun h => absurd h (by decide))
              refine v_iinc C (nI (y + 1)) [(6, .int (nI (y + 1))), (5, .int fe), (4, .int le), (3, .int (nI cn)), (2, .int (nI wl)), (0, .ref (b 0)), (1, .int x)] 0 dX5_codes_105 rfl (nI_inc _) (by decide) rfl ?_
              refine v_goto C 40 dX5_codes_108 (by decide) ?_
              exact ihn_7 (y + 1) cn le fe (nI y) nw'_14 ov'_15 ho'_16 vd'_17 iE'_18 rl'_19 rw'_20 (by omega) (by omega) (by rw [cdS, if_neg c21]; exact hcd) hle hfe
      exact lp (64 - 0 + 1) 0 0 (-9) (-9) (nI wl) n_nw n_ov n_ho n_vd n_iE n_rl n_rw (by omega) (by omega) rfl (by simp) (Or.inl rfl)
    · have nc4 : nc = 0 := nI_eqP c4 (by omega) (by omega)
      have zc35 : nI nc ≤ 0 := by rw [nc0 hnc]; exact nc4
      refine v_bipush C (-3) dX5_codes_19 (by decide) ?_
      exact v_reti C hA dX5_codes_21 rfl (⟨_, _, _, _, _, _, _, by first | (simp only [cdF, bI, c3, c4, nc4, nc4, zc35, not_false_eq_true, not_true_eq_false, and_self, and_true, true_and, and_false, false_and, ↓reduceIte]; done) | (simp only [cdF, bI, c3, c4, nc4, nc4, zc35, not_false_eq_true, not_true_eq_false, and_self, and_true, true_and, and_false, false_and, ↓reduceIte]; rfl) | (simp [cdF, bI, c3, c4, nc4, nc4, zc35]; done) | rfl, by first | (simp only [cdF, bI, c3, c4, nc4, nc4, zc35, not_false_eq_true, not_true_eq_false, and_self, and_true, true_and, and_false, false_and, ↓reduceIte]; done) | (simp only [cdF, bI, c3, c4, nc4, nc4, zc35, not_false_eq_true, not_true_eq_false, and_self, and_true, true_and, and_false, false_and, ↓reduceIte]; rfl) | (simp [cdF, bI, c3, c4, nc4, nc4, zc35]; done) | rfl⟩)
  · refine v_eqi 0 (bI_f c3) ?_
    rw [wib_2] at c3
    refine v_if_ne C 12 dX5_codes_6 (by decide) (fun h => absurd h (by decide)) (fun _ => ?_)
    refine v_bipush C (-2) dX5_codes_9 (by decide) ?_
    exact v_reti C hA dX5_codes_11 rfl (⟨_, _, _, _, _, _, _, by first | (simp only [cdF, bI, c3, not_false_eq_true, not_true_eq_false, and_self, and_true, true_and, and_false, false_and, ↓reduceIte]; done) | (simp only [cdF, bI, c3, not_false_eq_true, not_true_eq_false, and_self, and_true, true_and, and_false, false_and, ↓reduceIte]; rfl) | (simp [cdF, bI, c3]; done) | rfl, by first | (simp only [cdF, bI, c3, not_false_eq_true, not_true_eq_false, and_self, and_true, true_and, and_false, false_and, ↓reduceIte]; done) | (simp only [cdF, bI, c3, not_false_eq_true, not_true_eq_false, and_self, and_true, true_and, and_false, false_and, ↓reduceIte]; rfl) | (simp [cdF, bI, c3]; done) | rfl⟩)
set_option maxHeartbeats 4000000 in
set_option maxRecDepth 100000 in
theorem m_X5_kinds {l : Launch} {D : va_G} {cI cB cS : ClassId} (b : Nat → Nat) (nj nc wl s0 st nr : Nat) (dn : Nat → Nat) (rn : Nat → Nat) (n_fa : Int32) (n_tr : Int32) (n_mi : Int32) (n_at : Int32) (n_rm : Int32) (n_rj : Int32) (n_rc : Int32) (n_nw : Int32) (n_ov : Int32) (n_rl : Int32) (n_kd : Nat → Int32) (n_ag : Nat → Int32) (n_hS : Nat → Int32) (n_iS : Nat → Int32) (n_iE : Nat → Int32) (n_de : Nat → Int32) (n_fr : Nat → Int32) (n_ho : Nat → Int32) (n_vd : Nat → Int32) (n_rw : Nat → Int32) (n_we : Nat → Int32) (n_rC : Nat → Int32) (n_rH : Nat → Int32) (j : Int32) (hnj : nj ≤ 5) (hnc : nc ≤ 5) (hwl : wl < 64) (hs0 : s0 < 2 ^ nj) (hst2 : st < 2 ^ nj) (hp5 : 2 ^ nj ≤ 32) (hnr : nr ≤ 8) (hhS : ∀ j, j < nj → n_hS j = bA s0 j) (hiS : ∀ j, j < nj → n_iS j = bA st j) (hde : ∀ c, c < nc → n_de c = nI (dn c) ∧ dn c < 6) (hrc : ∀ q, q < nr → n_rC q = nI (rn q) ∧ rn q < nc) : Mi l yX5_kinds cX5_kinds 5 (some .int) 7 154 D cI cB cS [.ref (b 0), .int j] [oN b n_fa n_tr n_mi (nI nj) (nI nc) (nI wl) n_at n_rm n_rj n_rc n_nw n_ov n_rl (nI nr), ia (b 9) cI 5 n_kd, ia (b 10) cI 5 n_ag, ia (b 11) cB 5 n_hS, ia (b 12) cB 5 n_iS, ia (b 26) cB 5 n_iE, ia (b 13) cI 5 n_de, ia (b 14) cI 5 n_fr, ia (b 24) cI 5 n_ho, ia (b 25) cI 6 n_vd, ia (b 28) cI 5 n_rw, ia (b 15) cI 5 n_we, ia (b 31) cI 8 n_rC, ia (b 32) cI 8 n_rH] (fun r w => ∃ (nw' : Int32) (ov' : Int32) (ho' : Nat → Int32) (vd' : Nat → Int32) (iE' : Nat → Int32) (rl' : Int32) (rw' : Nat → Int32), r = kiF nj (fun jx kx => arB (sitS nj (upd n_kd jx (nI kx)) n_ag st wl dn n_fr n_we n_mi s0 (fun p => p) nc).1 rn n_rH nr) j ∧ w = [oN b n_fa n_tr n_mi (nI nj) (nI nc) (nI wl) n_at n_rm n_rj n_rc nw' ov' rl' (nI nr), ia (b 9) cI 5 n_kd, ia (b 10) cI 5 n_ag, ia (b 11) cB 5 n_hS, ia (b 12) cB 5 n_iS, ia (b 26) cB 5 iE', ia (b 13) cI 5 n_de, ia (b 14) cI 5 n_fr, ia (b 24) cI 5 ho', ia (b 25) cI 6 vd', ia (b 28) cI 5 rw', ia (b 15) cI 5 n_we, ia (b 31) cI 8 n_rC, ia (b 32) cI 8 n_rH]) := by
  refine Mi.of (by decide) (Nat.le_of_ble_eq_true rfl) ?_
  intro zp ze zs zm zb zt zc zz zA hA C hnm
  refine v_lv0 [(0, .ref (b 0)), (1, .int j)] rfl ?_
  refine v_aload_n C dX5_kinds_0 0 rfl ?_
  refine v_iload_n C dX5_kinds_1 1 rfl ?_
  refine v_callRi C l_X5_140 (m_X5_isJuror b n_fa n_tr n_mi (nI nj) (nI nc) (nI wl) n_at n_rm n_rj n_rc n_nw n_ov n_rl (nI nr) j) (by decide) dX5_kinds_2 [0] rfl 0 rfl rfl rfl (rest := []) rfl (Nat.le_of_ble_eq_true rfl) (by decide) (fun r1 h2 => ?_)
  subst h2
  by_cases c3 : ¬ j < 0 ∧ ¬ (nI nj) ≤ j
  · refine v_eqi 1 (bI_t c3) ?_
    obtain ⟨jN, hjN, rfl⟩ := ix_of' (by omega) c3
    have zjN : (nI jN).toNatClampNeg = jN := nI_clamp (by omega)
    refine v_if_ne C 10 dX5_kinds_5 (by decide) (fun _ => ?_) (fun h => absurd h (by decide))
    refine v_aload_n C dX5_kinds_10 0 rfl ?_
    refine v_get C f_X5_19 dX5_kinds_11 0 rfl rfl ?_
    refine v_iload_n C dX5_kinds_14 1 rfl ?_
    refine v_ialdN C dX5_kinds_15 1 rfl jN rfl (by omega) (by decide) ?_
    refine v_istore_n C [(2, .int (n_kd jN)), (0, .ref (b 0)), (1, .int (nI jN))] dX5_kinds_16 (by decide) rfl ?_
    refine v_iconst C 0 dX5_kinds_17 (by decide) ?_
    refine v_istore_n C [(3, .int 0), (2, .int (n_kd jN)), (0, .ref (b 0)), (1, .int (nI jN))] dX5_kinds_18 (by decide) rfl ?_
    refine v_iconst C 0 dX5_kinds_19 (by decide) ?_
    refine v_istore C [(4, .int 0), (3, .int 0), (2, .int (n_kd jN)), (0, .ref (b 0)), (1, .int (nI jN))] dX5_kinds_20 (by decide) rfl ?_
    have lp : ∀ (n_5 : Nat) (k : Nat) (m : Nat) (kd1 : Nat → Int32) (nw1 : Int32) (ov1 : Int32) (ho1 : Nat → Int32) (vd1 : Nat → Int32) (iE1 : Nat → Int32) (rl1 : Int32) (rw1 : Nat → Int32), 3 - k < n_5 → (k ≤ 3) → (m = mk ((fun jx kx => arB (sitS nj (upd n_kd jx (nI kx)) n_ag st wl dn n_fr n_we n_mi s0 (fun p => p) nc).1 rn n_rH nr) jN) k) → (∀ y, upd kd1 jN y = upd n_kd jN y) → V zp l ze (rmOf 7 154) zs zm [.ref (b 0), .int (nI jN)].toArray zb zt zc D (IM zA zs) (QMi zb [.ref (b 0), .int (nI jN)].toArray zs D cI cB cS [oN b n_fa n_tr n_mi (nI nj) (nI nc) (nI wl) n_at n_rm n_rj n_rc n_nw n_ov n_rl (nI nr), ia (b 9) cI 5 n_kd, ia (b 10) cI 5 n_ag, ia (b 11) cB 5 n_hS, ia (b 12) cB 5 n_iS, ia (b 26) cB 5 n_iE, ia (b 13) cI 5 n_de, ia (b 14) cI 5 n_fr, ia (b 24) cI 5 n_ho, ia (b 25) cI 6 n_vd, ia (b 28) cI 5 n_rw, ia (b 15) cI 5 n_we, ia (b 31) cI 8 n_rC, ia (b 32) cI 8 n_rH] zz (fun r w => ∃ (nw' : Int32) (ov' : Int32) (ho' : Nat → Int32) (vd' : Nat → Int32) (iE' : Nat → Int32) (rl' : Int32) (rw' : Nat → Int32), r = kiF nj (fun jx kx => arB (sitS nj (upd n_kd jx (nI kx)) n_ag st wl dn n_fr n_we n_mi s0 (fun p => p) nc).1 rn n_rH nr) (nI jN) ∧ w = [oN b n_fa n_tr n_mi (nI nj) (nI nc) (nI wl) n_at n_rm n_rj n_rc nw' ov' rl' (nI nr), ia (b 9) cI 5 n_kd, ia (b 10) cI 5 n_ag, ia (b 11) cB 5 n_hS, ia (b 12) cB 5 n_iS, ia (b 26) cB 5 iE', ia (b 13) cI 5 n_de, ia (b 14) cI 5 n_fr, ia (b 24) cI 5 ho', ia (b 25) cI 6 vd', ia (b 28) cI 5 rw', ia (b 15) cI 5 n_we, ia (b 31) cI 8 n_rC, ia (b 32) cI 8 n_rH])) 0 0 5 [oN b n_fa n_tr n_mi (nI nj) (nI nc) (nI wl) n_at n_rm n_rj n_rc nw1 ov1 rl1 (nI nr), ia (b 9) cI 5 kd1, ia (b 10) cI 5 n_ag, ia (b 11) cB 5 n_hS, ia (b 12) cB 5 n_iS, ia (b 26) cB 5 iE1, ia (b 13) cI 5 n_de, ia (b 14) cI 5 n_fr, ia (b 24) cI 5 ho1, ia (b 25) cI 6 vd1, ia (b 28) cI 5 rw1, ia (b 15) cI 5 n_we, ia (b 31) cI 8 n_rC, ia (b 32) cI 8 n_rH] [(4, .int (nI k)), (3, .int (nI m)), (2, .int (n_kd jN)), (0, .ref (b 0)), (1, .int (nI jN))] 22 [] := by
      intro n_5
      induction n_5 with
      | zero => intro k m kd1 nw1 ov1 ho1 vd1 iE1 rl1 rw1 b4; exact absurd b4 (by omega)
      | succ n_5 ihn_5 =>
        intro k m kd1 nw1 ov1 ho1 vd1 iE1 rl1 rw1 b4 hk hm htk
        refine v_iload C dX5_kinds_22 0 rfl ?_
        refine v_iconst C 3 dX5_kinds_24 (by decide) ?_
        refine v_icmp_ge C 60 dX5_kinds_25 (by decide) (fun c6 => ?_) (fun c6 => ?_)
        · have nc6 : 3 ≤ k := nI_leD c6 (by omega)
          have hke : k = 3 := by omega
          rw [hke] at hm
          refine v_aload_n C dX5_kinds_60 3 rfl ?_
          refine v_get C f_X5_19 dX5_kinds_61 0 rfl rfl ?_
          refine v_iload_n C dX5_kinds_64 4 rfl ?_
          refine v_iload_n C dX5_kinds_65 2 rfl ?_
          refine v_iastN C [oN b n_fa n_tr n_mi (nI nj) (nI nc) (nI wl) n_at n_rm n_rj n_rc nw1 ov1 rl1 (nI nr), ia (b 9) cI 5 (upd kd1 jN (n_kd jN)), ia (b 10) cI 5 n_ag, ia (b 11) cB 5 n_hS, ia (b 12) cB 5 n_iS, ia (b 26) cB 5 iE1, ia (b 13) cI 5 n_de, ia (b 14) cI 5 n_fr, ia (b 24) cI 5 ho1, ia (b 25) cI 6 vd1, ia (b 28) cI 5 rw1, ia (b 15) cI 5 n_we, ia (b 31) cI 8 n_rC, ia (b 32) cI 8 n_rH] dX5_kinds_66 1 rfl jN rfl (by omega) (by decide) rfl ?_
          refine v_ws0 [oN b n_fa n_tr n_mi (nI nj) (nI nc) (nI wl) n_at n_rm n_rj n_rc nw1 ov1 rl1 (nI nr), ia (b 9) cI 5 n_kd, ia (b 10) cI 5 n_ag, ia (b 11) cB 5 n_hS, ia (b 12) cB 5 n_iS, ia (b 26) cB 5 iE1, ia (b 13) cI 5 n_de, ia (b 14) cI 5 n_fr, ia (b 24) cI 5 ho1, ia (b 25) cI 6 vd1, ia (b 28) cI 5 rw1, ia (b 15) cI 5 n_we, ia (b 31) cI 8 n_rC, ia (b 32) cI 8 n_rH] (by rw [htk, upd_id n_kd rfl]) ?_
          refine v_iload_n C dX5_kinds_67 1 rfl ?_
          exact v_reti C hA dX5_kinds_68 rfl (⟨_, _, _, _, _, _, _, by first | (simp only [kiF, hm, zjN, c3, c6, nc6, Nat.not_lt.mpr nc6, not_false_eq_true, not_true_eq_false, and_self, and_true, true_and, and_false, false_and, ↓reduceIte]; done) | (simp [kiF, hm, zjN, c3, c6, nc6, Nat.not_lt.mpr nc6]; done), rfl⟩)
        · have nc6 : k < 3 := nI_ltD c6 (by omega)
          refine v_aload_n C dX5_kinds_28 3 rfl ?_
          refine v_get C f_X5_19 dX5_kinds_29 0 rfl rfl ?_
          refine v_iload_n C dX5_kinds_32 4 rfl ?_
          refine v_iload C dX5_kinds_33 0 rfl ?_
          refine v_iastN C [oN b n_fa n_tr n_mi (nI nj) (nI nc) (nI wl) n_at n_rm n_rj n_rc nw1 ov1 rl1 (nI nr), ia (b 9) cI 5 (upd kd1 jN (nI k)), ia (b 10) cI 5 n_ag, ia (b 11) cB 5 n_hS, ia (b 12) cB 5 n_iS, ia (b 26) cB 5 iE1, ia (b 13) cI 5 n_de, ia (b 14) cI 5 n_fr, ia (b 24) cI 5 ho1, ia (b 25) cI 6 vd1, ia (b 28) cI 5 rw1, ia (b 15) cI 5 n_we, ia (b 31) cI 8 n_rC, ia (b 32) cI 8 n_rH] dX5_kinds_35 1 rfl jN rfl (by omega) (by decide) rfl ?_
          refine v_ws0 [oN b n_fa n_tr n_mi (nI nj) (nI nc) (nI wl) n_at n_rm n_rj n_rc nw1 ov1 rl1 (nI nr), ia (b 9) cI 5 (upd n_kd jN (nI k)), ia (b 10) cI 5 n_ag, ia (b 11) cB 5 n_hS, ia (b 12) cB 5 n_iS, ia (b 26) cB 5 iE1, ia (b 13) cI 5 n_de, ia (b 14) cI 5 n_fr, ia (b 24) cI 5 ho1, ia (b 25) cI 6 vd1, ia (b 28) cI 5 rw1, ia (b 15) cI 5 n_we, ia (b 31) cI 8 n_rC, ia (b 32) cI 8 n_rH] (by rw [htk]) ?_
          refine v_iload_n C dX5_kinds_36 1 rfl ?_
          refine v_aload_n C dX5_kinds_37 3 rfl ?_
          refine v_callMi C l_X5_217 (m_X5_areSo b wl nj nc s0 st nr dn rn n_fa n_tr n_mi n_at n_rm n_rj n_rc nw1 ov1 rl1 (upd n_kd jN (nI k)) n_ag n_hS n_iS iE1 n_de n_fr ho1 vd1 rw1 n_we n_rC n_rH (by assumption) (by assumption) (by assumption) (by assumption) (by assumption) (by assumption) (by assumption) (by assumption)) (by decide) dX5_kinds_38 [0, 1, 2, 3, 4, 5, 6, 7, 8, 9, 10, 11, 12, 13] [] (wr := []) (by decide) rfl rfl (by decide) (by decide) 0 rfl rfl rfl (rest := [.int (nI m)]) rfl (Nat.le_of_ble_eq_true rfl) (by decide) (fun r9 w7 h8 => ?_)
          obtain ⟨nw'_10, ov'_11, ho'_12, vd'_13, iE'_14, rl'_15, rw'_16, rfl, rfl⟩ := h8
          refine v_ws0 [oN b n_fa n_tr n_mi (nI nj) (nI nc) (nI wl) n_at n_rm n_rj n_rc nw'_10 ov'_11 rl'_15 (nI nr), ia (b 9) cI 5 (upd n_kd jN (nI k)), ia (b 10) cI 5 n_ag, ia (b 11) cB 5 n_hS, ia (b 12) cB 5 n_iS, ia (b 26) cB 5 iE'_14, ia (b 13) cI 5 n_de, ia (b 14) cI 5 n_fr, ia (b 24) cI 5 ho'_12, ia (b 25) cI 6 vd'_13, ia (b 28) cI 5 rw'_16, ia (b 15) cI 5 n_we, ia (b 31) cI 8 n_rC, ia (b 32) cI 8 n_rH] rfl ?_
          by_cases c17 : arB (sitS nj (upd n_kd jN (nI k)) n_ag st wl dn n_fr n_we n_mi s0 (fun p => p) nc).1 rn n_rH nr = true
          · refine v_eqi 1 (bI_t c17) ?_
            refine v_if_eq C 51 dX5_kinds_41 (by decide) (fun h => absurd h (by decide)) (fun _ => ?_)
            refine v_iconst C 1 dX5_kinds_44 (by decide) ?_
            refine v_iload C dX5_kinds_45 0 rfl ?_
            refine v_ishl C dX5_kinds_47 ?_
            refine v_goto C 52 dX5_kinds_48 (by decide) ?_
            refine v_ior C dX5_kinds_52 ?_
            refine v_eqi (nI (set1 m k)) (raw_set m (by rw [hm]; have t := mk_lt ((fun jx kx => arB (sitS nj (upd n_kd jx (nI kx)) n_ag st wl dn n_fr n_we n_mi s0 (fun p => p) nc).1 rn n_rH nr) jN) k; have := Nat.pow_le_pow_right (n := 2) (by omega) (show k ≤ 5 by omega); omega) k (by omega)) ?_
            refine v_istore_n C [(3, .int (nI (set1 m k))), (4, .int (nI k)), (2, .int (n_kd jN)), (0, .ref (b 0)), (1, .int (nI jN))] dX5_kinds_53 (by decide) rfl ?_
            refine v_iinc C (nI (k + 1)) [(4, .int (nI (k + 1))), (3, .int (nI (set1 m k))), (2, .int (n_kd jN)), (0, .ref (b 0)), (1, .int (nI jN))] 1 dX5_kinds_54 rfl (nI_inc _) (by decide) rfl ?_
            refine v_goto C 22 dX5_kinds_57 (by decide) ?_
            exact ihn_5 (k + 1) (set1 m k) (upd n_kd jN (nI k)) nw'_10 ov'_11 ho'_12 vd'_13 iE'_14 rl'_15 rw'_16 (by omega) (by omega) (by rw [hm]; exact set1_mk (by omega) (c17)) (fun y => upd_twice _ _ _ _)
          · refine v_eqi 0 (bI_f c17) ?_
            refine v_if_eq C 51 dX5_kinds_41 (by decide) (fun _ => ?_) (fun h => absurd h (by decide))
            refine v_iconst C 0 dX5_kinds_51 (by decide) ?_
            refine v_ior C dX5_kinds_52 ?_
            refine v_eqi (nI m) (or_zero m) ?_
            refine v_istore_n C [(3, .int (nI m)), (4, .int (nI k)), (2, .int (n_kd jN)), (0, .ref (b 0)), (1, .int (nI jN))] dX5_kinds_53 (by decide) rfl ?_
            refine v_iinc C (nI (k + 1)) [(4, .int (nI (k + 1))), (3, .int (nI m)), (2, .int (n_kd jN)), (0, .ref (b 0)), (1, .int (nI jN))] 1 dX5_kinds_54 rfl (nI_inc _) (by decide) rfl ?_
            refine v_goto C 22 dX5_kinds_57 (by decide) ?_
            exact ihn_5 (k + 1) m (upd n_kd jN (nI k)) nw'_10 ov'_11 ho'_12 vd'_13 iE'_14 rl'_15 rw'_16 (by omega) (by omega) (by rw [hm]; exact mk_skip (eq_false_of_ne_true c17)) (fun y => upd_twice _ _ _ _)
    exact lp (3 - 0 + 1) 0 0 n_kd n_nw n_ov n_ho n_vd n_iE n_rl n_rw (by omega) (by omega) rfl (fun y => rfl)
  · refine v_eqi 0 (bI_f c3) ?_
    refine v_if_ne C 10 dX5_kinds_5 (by decide) (fun h => absurd h (by decide)) (fun _ => ?_)
    refine v_iconst C (-1) dX5_kinds_8 (by decide) ?_
    exact v_reti C hA dX5_kinds_9 rfl (⟨_, _, _, _, _, _, _, by first | (simp only [kiF, bI, c3, not_false_eq_true, not_true_eq_false, and_self, and_true, true_and, and_false, false_and, ↓reduceIte]; done) | (simp only [kiF, bI, c3, not_false_eq_true, not_true_eq_false, and_self, and_true, true_and, and_false, false_and, ↓reduceIte]; rfl) | (simp [kiF, bI, c3]; done) | rfl, by first | (simp only [kiF, bI, c3, not_false_eq_true, not_true_eq_false, and_self, and_true, true_and, and_false, false_and, ↓reduceIte]; done) | (simp only [kiF, bI, c3, not_false_eq_true, not_true_eq_false, and_self, and_true, true_and, and_false, false_and, ↓reduceIte]; rfl) | (simp [kiF, bI, c3]; done) | rfl⟩)
set_option maxHeartbeats 4000000 in
set_option maxRecDepth 100000 in
theorem m_X5_treated {l : Launch} {D : va_G} {cI cB cS : ClassId} (b : Nat → Nat) (nj nc wl s0 st nr : Nat) (dn : Nat → Nat) (rn : Nat → Nat) (n_fa : Int32) (n_tr : Int32) (n_mi : Int32) (n_at : Int32) (n_rm : Int32) (n_rj : Int32) (n_rc : Int32) (n_nw : Int32) (n_ov : Int32) (n_rl : Int32) (n_kd : Nat → Int32) (n_ag : Nat → Int32) (n_hS : Nat → Int32) (n_iS : Nat → Int32) (n_iE : Nat → Int32) (n_de : Nat → Int32) (n_fr : Nat → Int32) (n_ho : Nat → Int32) (n_vd : Nat → Int32) (n_rw : Nat → Int32) (n_we : Nat → Int32) (n_rC : Nat → Int32) (n_rH : Nat → Int32) (hnj : nj ≤ 5) (hnc : nc ≤ 5) (hwl : wl < 64) (hs0 : s0 < 2 ^ nj) (hst2 : st < 2 ^ nj) (hp5 : 2 ^ nj ≤ 32) (hnr : nr ≤ 8) (hhS : ∀ j, j < nj → n_hS j = bA s0 j) (hiS : ∀ j, j < nj → n_iS j = bA st j) (hde : ∀ c, c < nc → n_de c = nI (dn c) ∧ dn c < 6) (hrc : ∀ q, q < nr → n_rC q = nI (rn q) ∧ rn q < nc) : Mi l yX5_treated cX5_treated 4 (some .int) 7 154 D cI cB cS [.ref (b 0)] [oN b n_fa n_tr n_mi (nI nj) (nI nc) (nI wl) n_at n_rm n_rj n_rc n_nw n_ov n_rl (nI nr), ia (b 9) cI 5 n_kd, ia (b 10) cI 5 n_ag, ia (b 11) cB 5 n_hS, ia (b 12) cB 5 n_iS, ia (b 26) cB 5 n_iE, ia (b 13) cI 5 n_de, ia (b 14) cI 5 n_fr, ia (b 24) cI 5 n_ho, ia (b 25) cI 6 n_vd, ia (b 28) cI 5 n_rw, ia (b 15) cI 5 n_we, ia (b 31) cI 8 n_rC, ia (b 32) cI 8 n_rH] (fun r w => ∃ (nw' : Int32) (ov' : Int32) (ho' : Nat → Int32) (vd' : Nat → Int32) (iE' : Nat → Int32) (rl' : Int32) (rw' : Nat → Int32), r = teF nj nc (fun jx => arB (sitS nj n_kd n_ag st wl dn n_fr n_we n_mi (set1 s0 jx) (fun p => p) nc).1 rn n_rH nr) ∧ w = [oN b n_fa n_tr n_mi (nI nj) (nI nc) (nI wl) n_at n_rm n_rj n_rc nw' ov' rl' (nI nr), ia (b 9) cI 5 n_kd, ia (b 10) cI 5 n_ag, ia (b 11) cB 5 n_hS, ia (b 12) cB 5 n_iS, ia (b 26) cB 5 iE', ia (b 13) cI 5 n_de, ia (b 14) cI 5 n_fr, ia (b 24) cI 5 ho', ia (b 25) cI 6 vd', ia (b 28) cI 5 rw', ia (b 15) cI 5 n_we, ia (b 31) cI 8 n_rC, ia (b 32) cI 8 n_rH]) := by
  refine Mi.of (by decide) (Nat.le_of_ble_eq_true rfl) ?_
  intro zp ze zs zm zb zt zc zz zA hA C hnm
  refine v_lv0 [(0, .ref (b 0))] rfl ?_
  refine v_aload_n C dX5_treated_0 0 rfl ?_
  refine v_get C f_X5_81 dX5_treated_1 0 rfl rfl ?_
  refine v_if_ne C 10 dX5_treated_4 (by decide) (fun c1 => ?_) (fun c1 => ?_)
  · have nc1 : nc ≠ 0 := fun q => c1 (by rw [q] <;> rfl)
    have zc2 : ¬ nI nc ≤ 0 := by rw [nc0 hnc]; exact nc1
    have hnc1 : 1 ≤ nc := by omega
    refine v_iconst C 0 dX5_treated_10 (by decide) ?_
    refine v_istore_n C [(1, .int 0), (0, .ref (b 0))] dX5_treated_11 (by decide) rfl ?_
    refine v_iconst C 0 dX5_treated_12 (by decide) ?_
    refine v_istore_n C [(2, .int 0), (1, .int 0), (0, .ref (b 0))] dX5_treated_13 (by decide) rfl ?_
    have lp : ∀ (n_4 : Nat) (j : Nat) (m : Nat) (nw1 : Int32) (ov1 : Int32) (ho1 : Nat → Int32) (vd1 : Nat → Int32) (iE1 : Nat → Int32) (rl1 : Int32) (rw1 : Nat → Int32), nj - j < n_4 → (j ≤ nj) → (m = mk ((fun jx => arB (sitS nj n_kd n_ag st wl dn n_fr n_we n_mi (set1 s0 jx) (fun p => p) nc).1 rn n_rH nr)) j) → V zp l ze (rmOf 7 154) zs zm [.ref (b 0)].toArray zb zt zc D (IM zA zs) (QMi zb [.ref (b 0)].toArray zs D cI cB cS [oN b n_fa n_tr n_mi (nI nj) (nI nc) (nI wl) n_at n_rm n_rj n_rc n_nw n_ov n_rl (nI nr), ia (b 9) cI 5 n_kd, ia (b 10) cI 5 n_ag, ia (b 11) cB 5 n_hS, ia (b 12) cB 5 n_iS, ia (b 26) cB 5 n_iE, ia (b 13) cI 5 n_de, ia (b 14) cI 5 n_fr, ia (b 24) cI 5 n_ho, ia (b 25) cI 6 n_vd, ia (b 28) cI 5 n_rw, ia (b 15) cI 5 n_we, ia (b 31) cI 8 n_rC, ia (b 32) cI 8 n_rH] zz (fun r w => ∃ (nw' : Int32) (ov' : Int32) (ho' : Nat → Int32) (vd' : Nat → Int32) (iE' : Nat → Int32) (rl' : Int32) (rw' : Nat → Int32), r = teF nj nc (fun jx => arB (sitS nj n_kd n_ag st wl dn n_fr n_we n_mi (set1 s0 jx) (fun p => p) nc).1 rn n_rH nr) ∧ w = [oN b n_fa n_tr n_mi (nI nj) (nI nc) (nI wl) n_at n_rm n_rj n_rc nw' ov' rl' (nI nr), ia (b 9) cI 5 n_kd, ia (b 10) cI 5 n_ag, ia (b 11) cB 5 n_hS, ia (b 12) cB 5 n_iS, ia (b 26) cB 5 iE', ia (b 13) cI 5 n_de, ia (b 14) cI 5 n_fr, ia (b 24) cI 5 ho', ia (b 25) cI 6 vd', ia (b 28) cI 5 rw', ia (b 15) cI 5 n_we, ia (b 31) cI 8 n_rC, ia (b 32) cI 8 n_rH])) 0 0 4 [oN b n_fa n_tr n_mi (nI nj) (nI nc) (nI wl) n_at n_rm n_rj n_rc nw1 ov1 rl1 (nI nr), ia (b 9) cI 5 n_kd, ia (b 10) cI 5 n_ag, ia (b 11) cB 5 n_hS, ia (b 12) cB 5 n_iS, ia (b 26) cB 5 iE1, ia (b 13) cI 5 n_de, ia (b 14) cI 5 n_fr, ia (b 24) cI 5 ho1, ia (b 25) cI 6 vd1, ia (b 28) cI 5 rw1, ia (b 15) cI 5 n_we, ia (b 31) cI 8 n_rC, ia (b 32) cI 8 n_rH] [(2, .int (nI j)), (1, .int (nI m)), (0, .ref (b 0))] 14 [] := by
      intro n_4
      induction n_4 with
      | zero => intro j m nw1 ov1 ho1 vd1 iE1 rl1 rw1 b3; exact absurd b3 (by omega)
      | succ n_4 ihn_4 =>
        intro j m nw1 ov1 ho1 vd1 iE1 rl1 rw1 b3 hj hm
        refine v_iload_n C dX5_treated_14 0 rfl ?_
        refine v_aload_n C dX5_treated_15 2 rfl ?_
        refine v_get C f_X5_78 dX5_treated_16 0 rfl rfl ?_
        refine v_icmp_ge C 66 dX5_treated_19 (by decide) (fun c5 => ?_) (fun c5 => ?_)
        · have nc5 : nj ≤ j := nI_leD c5 (by omega)
          have hke : j = nj := by omega
          rw [hke] at hm
          refine v_iload_n C dX5_treated_66 1 rfl ?_
          exact v_reti C hA dX5_treated_67 rfl (⟨_, _, _, _, _, _, _, by first | (simp only [teF, hm, c1, nc1, nc1, zc2, c5, nc5, Nat.not_lt.mpr nc5, not_false_eq_true, not_true_eq_false, and_self, and_true, true_and, and_false, false_and, ↓reduceIte]; done) | (simp [teF, hm, c1, nc1, nc1, zc2, c5, nc5, Nat.not_lt.mpr nc5]; done), rfl⟩)
        · have nc5 : j < nj := nI_ltD c5 (by omega)
          have hjn : j < nj := nc5
          refine v_aload_n C dX5_treated_22 2 rfl ?_
          refine v_get C f_X5_25 dX5_treated_23 0 rfl rfl ?_
          refine v_iload_n C dX5_treated_26 0 rfl ?_
          refine v_zaldN C dX5_treated_27 3 rfl j rfl (by omega) (by decide) ?_
          refine v_eqi (bA s0 j) (hhS j hjn) ?_
          refine v_istore_n C [(3, .int (bA s0 j)), (2, .int (nI j)), (1, .int (nI m)), (0, .ref (b 0))] dX5_treated_28 (by decide) rfl ?_
          refine v_aload_n C dX5_treated_29 3 rfl ?_
          refine v_get C f_X5_25 dX5_treated_30 0 rfl rfl ?_
          refine v_iload_n C dX5_treated_33 1 rfl ?_
          refine v_iconst C 1 dX5_treated_34 (by decide) ?_
          refine v_zastN C [oN b n_fa n_tr n_mi (nI nj) (nI nc) (nI wl) n_at n_rm n_rj n_rc nw1 ov1 rl1 (nI nr), ia (b 9) cI 5 n_kd, ia (b 10) cI 5 n_ag, ia (b 11) cB 5 (upd n_hS j 1), ia (b 12) cB 5 n_iS, ia (b 26) cB 5 iE1, ia (b 13) cI 5 n_de, ia (b 14) cI 5 n_fr, ia (b 24) cI 5 ho1, ia (b 25) cI 6 vd1, ia (b 28) cI 5 rw1, ia (b 15) cI 5 n_we, ia (b 31) cI 8 n_rC, ia (b 32) cI 8 n_rH] dX5_treated_35 3 rfl j rfl (by omega) (by decide) rfl rfl ?_
          refine v_iload_n C dX5_treated_36 2 rfl ?_
          refine v_aload_n C dX5_treated_37 3 rfl ?_
          refine v_callMi C l_X5_217 (m_X5_areSo b wl nj nc (set1 s0 j) st nr dn rn n_fa n_tr n_mi n_at n_rm n_rj n_rc nw1 ov1 rl1 n_kd n_ag (upd n_hS j 1) n_iS iE1 n_de n_fr ho1 vd1 rw1 n_we n_rC n_rH (by assumption) (by assumption) (by assumption) (bA_set hhS hnj (by omega) hjn) (by assumption) (by assumption) (by assumption) (by assumption)) (by decide) dX5_treated_38 [0, 1, 2, 3, 4, 5, 6, 7, 8, 9, 10, 11, 12, 13] [] (wr := []) (by decide) rfl rfl (by decide) (by decide) 0 rfl rfl rfl (rest := [.int (nI m)]) rfl (Nat.le_of_ble_eq_true rfl) (by decide) (fun r8 w6 h7 => ?_)
          obtain ⟨nw'_9, ov'_10, ho'_11, vd'_12, iE'_13, rl'_14, rw'_15, rfl, rfl⟩ := h7
          refine v_ws0 [oN b n_fa n_tr n_mi (nI nj) (nI nc) (nI wl) n_at n_rm n_rj n_rc nw'_9 ov'_10 rl'_14 (nI nr), ia (b 9) cI 5 n_kd, ia (b 10) cI 5 n_ag, ia (b 11) cB 5 (upd n_hS j 1), ia (b 12) cB 5 n_iS, ia (b 26) cB 5 iE'_13, ia (b 13) cI 5 n_de, ia (b 14) cI 5 n_fr, ia (b 24) cI 5 ho'_11, ia (b 25) cI 6 vd'_12, ia (b 28) cI 5 rw'_15, ia (b 15) cI 5 n_we, ia (b 31) cI 8 n_rC, ia (b 32) cI 8 n_rH] rfl ?_
          by_cases c16 : arB (sitS nj n_kd n_ag st wl dn n_fr n_we n_mi (set1 s0 j) (fun p => p) nc).1 rn n_rH nr = true
          · refine v_eqi 1 (bI_t c16) ?_
            refine v_if_eq C 50 dX5_treated_41 (by decide) (fun h => absurd h (by decide)) (fun _ => ?_)
            refine v_iconst C 1 dX5_treated_44 (by decide) ?_
            refine v_iload_n C dX5_treated_45 1 rfl ?_
            refine v_ishl C dX5_treated_46 ?_
            refine v_goto C 51 dX5_treated_47 (by decide) ?_
            refine v_ior C dX5_treated_51 ?_
            refine v_eqi (nI (set1 m j)) (raw_set m (by rw [hm]; have t := mk_lt ((fun jx => arB (sitS nj n_kd n_ag st wl dn n_fr n_we n_mi (set1 s0 jx) (fun p => p) nc).1 rn n_rH nr)) j; have := Nat.pow_le_pow_right (n := 2) (by omega) (show j ≤ 5 by omega); omega) j (by omega)) ?_
            refine v_istore_n C [(1, .int (nI (set1 m j))), (3, .int (bA s0 j)), (2, .int (nI j)), (0, .ref (b 0))] dX5_treated_52 (by decide) rfl ?_
            refine v_aload_n C dX5_treated_53 3 rfl ?_
            refine v_get C f_X5_25 dX5_treated_54 0 rfl rfl ?_
            refine v_iload_n C dX5_treated_57 2 rfl ?_
            refine v_iload_n C dX5_treated_58 1 rfl ?_
            refine v_zastN C [oN b n_fa n_tr n_mi (nI nj) (nI nc) (nI wl) n_at n_rm n_rj n_rc nw'_9 ov'_10 rl'_14 (nI nr), ia (b 9) cI 5 n_kd, ia (b 10) cI 5 n_ag, ia (b 11) cB 5 (upd (upd n_hS j 1) j (bA s0 j)), ia (b 12) cB 5 n_iS, ia (b 26) cB 5 iE'_13, ia (b 13) cI 5 n_de, ia (b 14) cI 5 n_fr, ia (b 24) cI 5 ho'_11, ia (b 25) cI 6 vd'_12, ia (b 28) cI 5 rw'_15, ia (b 15) cI 5 n_we, ia (b 31) cI 8 n_rC, ia (b 32) cI 8 n_rH] dX5_treated_59 3 rfl j rfl (by omega) (by decide) (bA_vp _ _) rfl ?_
            refine v_ws0 [oN b n_fa n_tr n_mi (nI nj) (nI nc) (nI wl) n_at n_rm n_rj n_rc nw'_9 ov'_10 rl'_14 (nI nr), ia (b 9) cI 5 n_kd, ia (b 10) cI 5 n_ag, ia (b 11) cB 5 n_hS, ia (b 12) cB 5 n_iS, ia (b 26) cB 5 iE'_13, ia (b 13) cI 5 n_de, ia (b 14) cI 5 n_fr, ia (b 24) cI 5 ho'_11, ia (b 25) cI 6 vd'_12, ia (b 28) cI 5 rw'_15, ia (b 15) cI 5 n_we, ia (b 31) cI 8 n_rC, ia (b 32) cI 8 n_rH] (by rw [upd_back (hhS j hjn)]) ?_
            refine v_iinc C (nI (j + 1)) [(2, .int (nI (j + 1))), (1, .int (nI (set1 m j))), (3, .int (bA s0 j)), (0, .ref (b 0))] 2 dX5_treated_60 rfl (nI_inc _) (by decide) rfl ?_
            refine v_goto C 14 dX5_treated_63 (by decide) ?_
            refine v_loc [0, 1, 3] (lv' := [(2, .int (nI (j + 1))), (1, .int (nI (set1 m j))), (0, .ref (b 0))]) rfl ?_
            exact ihn_4 (j + 1) (set1 m j) nw'_9 ov'_10 ho'_11 vd'_12 iE'_13 rl'_14 rw'_15 (by omega) (by omega) (by rw [hm]; exact set1_mk (by omega) (c16))
          · refine v_eqi 0 (bI_f c16) ?_
            refine v_if_eq C 50 dX5_treated_41 (by decide) (fun _ => ?_) (fun h => absurd h (by decide))
            refine v_iconst C 0 dX5_treated_50 (by decide) ?_
            refine v_ior C dX5_treated_51 ?_
            refine v_eqi (nI m) (or_zero m) ?_
            refine v_istore_n C [(1, .int (nI m)), (3, .int (bA s0 j)), (2, .int (nI j)), (0, .ref (b 0))] dX5_treated_52 (by decide) rfl ?_
            refine v_aload_n C dX5_treated_53 3 rfl ?_
            refine v_get C f_X5_25 dX5_treated_54 0 rfl rfl ?_
            refine v_iload_n C dX5_treated_57 2 rfl ?_
            refine v_iload_n C dX5_treated_58 1 rfl ?_
            refine v_zastN C [oN b n_fa n_tr n_mi (nI nj) (nI nc) (nI wl) n_at n_rm n_rj n_rc nw'_9 ov'_10 rl'_14 (nI nr), ia (b 9) cI 5 n_kd, ia (b 10) cI 5 n_ag, ia (b 11) cB 5 (upd (upd n_hS j 1) j (bA s0 j)), ia (b 12) cB 5 n_iS, ia (b 26) cB 5 iE'_13, ia (b 13) cI 5 n_de, ia (b 14) cI 5 n_fr, ia (b 24) cI 5 ho'_11, ia (b 25) cI 6 vd'_12, ia (b 28) cI 5 rw'_15, ia (b 15) cI 5 n_we, ia (b 31) cI 8 n_rC, ia (b 32) cI 8 n_rH] dX5_treated_59 3 rfl j rfl (by omega) (by decide) (bA_vp _ _) rfl ?_
            refine v_ws0 [oN b n_fa n_tr n_mi (nI nj) (nI nc) (nI wl) n_at n_rm n_rj n_rc nw'_9 ov'_10 rl'_14 (nI nr), ia (b 9) cI 5 n_kd, ia (b 10) cI 5 n_ag, ia (b 11) cB 5 n_hS, ia (b 12) cB 5 n_iS, ia (b 26) cB 5 iE'_13, ia (b 13) cI 5 n_de, ia (b 14) cI 5 n_fr, ia (b 24) cI 5 ho'_11, ia (b 25) cI 6 vd'_12, ia (b 28) cI 5 rw'_15, ia (b 15) cI 5 n_we, ia (b 31) cI 8 n_rC, ia (b 32) cI 8 n_rH] (by rw [upd_back (hhS j hjn)]) ?_
            refine v_iinc C (nI (j + 1)) [(2, .int (nI (j + 1))), (1, .int (nI m)), (3, .int (bA s0 j)), (0, .ref (b 0))] 2 dX5_treated_60 rfl (nI_inc _) (by decide) rfl ?_
            refine v_goto C 14 dX5_treated_63 (by decide) ?_
            refine v_loc [0, 1, 3] (lv' := [(2, .int (nI (j + 1))), (1, .int (nI m)), (0, .ref (b 0))]) rfl ?_
            exact ihn_4 (j + 1) m nw'_9 ov'_10 ho'_11 vd'_12 iE'_13 rl'_14 rw'_15 (by omega) (by omega) (by rw [hm]; exact mk_skip (eq_false_of_ne_true c16))
    exact lp (nj - 0 + 1) 0 0 n_nw n_ov n_ho n_vd n_iE n_rl n_rw (by omega) (by omega) rfl
  · have nc1 : nc = 0 := nI_eqP c1 (by omega) (by omega)
    have zc17 : nI nc ≤ 0 := by rw [nc0 hnc]; exact nc1
    refine v_bipush C (-3) dX5_treated_7 (by decide) ?_
    exact v_reti C hA dX5_treated_9 rfl (⟨_, _, _, _, _, _, _, by first | (simp only [teF, bI, c1, nc1, nc1, zc17, not_false_eq_true, not_true_eq_false, and_self, and_true, true_and, and_false, false_and, ↓reduceIte]; done) | (simp only [teF, bI, c1, nc1, nc1, zc17, not_false_eq_true, not_true_eq_false, and_self, and_true, true_and, and_false, false_and, ↓reduceIte]; rfl) | (simp [teF, bI, c1, nc1, nc1, zc17]; done) | rfl, by first | (simp only [teF, bI, c1, nc1, nc1, zc17, not_false_eq_true, not_true_eq_false, and_self, and_true, true_and, and_false, false_and, ↓reduceIte]; done) | (simp only [teF, bI, c1, nc1, nc1, zc17, not_false_eq_true, not_true_eq_false, and_self, and_true, true_and, and_false, false_and, ↓reduceIte]; rfl) | (simp [teF, bI, c1, nc1, nc1, zc17]; done) | rfl⟩)
set_option maxHeartbeats 4000000 in
set_option maxRecDepth 100000 in
theorem m_X5_votes {l : Launch} {D : va_G} {cI cB cS : ClassId} (b : Nat → Nat) (nj nc wl s0 st nr : Nat) (dn : Nat → Nat) (n_fa : Int32) (n_tr : Int32) (n_mi : Int32) (n_at : Int32) (n_rm : Int32) (n_rj : Int32) (n_rc : Int32) (n_nw : Int32) (n_ov : Int32) (n_rl : Int32) (n_kd : Nat → Int32) (n_ag : Nat → Int32) (n_hS : Nat → Int32) (n_iS : Nat → Int32) (n_iE : Nat → Int32) (n_de : Nat → Int32) (n_ho : Nat → Int32) (n_vd : Nat → Int32) (c : Int32) (mi : Int32) (hnj : nj ≤ 5) (hnc : nc ≤ 5) (hwl : wl < 64) (hs0 : s0 < 2 ^ nj) (hst2 : st < 2 ^ nj) (hp5 : 2 ^ nj ≤ 32) (hnr : nr ≤ 8) (hhS : ∀ j, j < nj → n_hS j = bA s0 j) (hiS : ∀ j, j < nj → n_iS j = bA st j) (hde : ∀ c, c < nc → n_de c = nI (dn c) ∧ dn c < 6) : Mi l yX5_votes cX5_votes 5 (some .int) 2 45 D cI cB cS [.ref (b 0), .int c, .int mi] [oN b n_fa n_tr n_mi (nI nj) (nI nc) (nI wl) n_at n_rm n_rj n_rc n_nw n_ov n_rl (nI nr), ia (b 9) cI 5 n_kd, ia (b 10) cI 5 n_ag, ia (b 11) cB 5 n_hS, ia (b 12) cB 5 n_iS, ia (b 26) cB 5 n_iE, ia (b 13) cI 5 n_de, ia (b 24) cI 5 n_ho, ia (b 25) cI 6 n_vd] (fun r w => ∃ (nw' : Int32) (ov' : Int32) (ho' : Nat → Int32) (vd' : Nat → Int32) (iE' : Nat → Int32), r = vtF nj nc n_kd n_ag s0 st wl dn c mi ∧ w = [oN b n_fa n_tr n_mi (nI nj) (nI nc) (nI wl) n_at n_rm n_rj n_rc nw' ov' n_rl (nI nr), ia (b 9) cI 5 n_kd, ia (b 10) cI 5 n_ag, ia (b 11) cB 5 n_hS, ia (b 12) cB 5 n_iS, ia (b 26) cB 5 iE', ia (b 13) cI 5 n_de, ia (b 24) cI 5 ho', ia (b 25) cI 6 vd']) := by
  refine Mi.of (by decide) (Nat.le_of_ble_eq_true rfl) ?_
  intro zp ze zs zm zb zt zc zz zA hA C hnm
  refine v_lv0 [(0, .ref (b 0)), (1, .int c), (2, .int mi)] rfl ?_
  refine v_aload_n C dX5_votes_0 0 rfl ?_
  refine v_iload_n C dX5_votes_1 1 rfl ?_
  refine v_callRi C l_X5_143 (m_X5_isCase b n_fa n_tr n_mi (nI nj) (nI nc) (nI wl) n_at n_rm n_rj n_rc n_nw n_ov n_rl (nI nr) c) (by decide) dX5_votes_2 [0] rfl 0 rfl rfl rfl (rest := []) rfl (Nat.le_of_ble_eq_true rfl) (by decide) (fun r1 h2 => ?_)
  subst h2
  by_cases c3 : ¬ c < 0 ∧ ¬ (nI nc) ≤ c
  · refine v_eqi 1 (bI_t c3) ?_
    obtain ⟨cN, hcN, rfl⟩ := ix_of' (by omega) c3
    have zcN : (nI cN).toNatClampNeg = cN := nI_clamp (by omega)
    refine v_if_ne C 10 dX5_votes_5 (by decide) (fun _ => ?_) (fun h => absurd h (by decide))
    refine v_iload_n C dX5_votes_10 2 rfl ?_
    refine v_iconst C 0 dX5_votes_11 (by decide) ?_
    refine v_bipush C 60 dX5_votes_12 (by decide) ?_
    refine v_callSi C l_X5_74 (m_X5_within mi 0 60) (by decide) dX5_votes_14 [] rfl rfl (rest := []) rfl (Nat.le_of_ble_eq_true rfl) (by decide) (fun r4 h5 => ?_)
    subst h5
    by_cases c6 : wib mi (0 : Int32) (60 : Int32) = true
    · refine v_eqi 1 (bI_t c6) ?_
      rw [wib_m] at c6
      refine v_if_ne C 23 dX5_votes_17 (by decide) (fun _ => ?_) (fun h => absurd h (by decide))
      refine v_aload_n C dX5_votes_23 0 rfl ?_
      refine v_callMv C l_X5_163 (m_X5_begin b nj nc n_fa n_tr n_mi (nI wl) n_at n_rm n_rj n_rc n_nw n_ov n_rl (nI nr) n_ho n_vd n_iE (by assumption) (by assumption)) (by decide) dX5_votes_24 [0, 7, 8, 5] [1, 2, 3, 4, 6] (wr := [ia (b 9) cI 5 n_kd, ia (b 10) cI 5 n_ag, ia (b 11) cB 5 n_hS, ia (b 12) cB 5 n_iS, ia (b 13) cI 5 n_de]) (by decide) rfl rfl (by decide) (by decide) 0 rfl rfl rfl (rest := []) rfl (Nat.le_of_ble_eq_true rfl) (by decide) (fun w7 h8 => ?_)
      subst h8
      refine v_ws0 [ia (b 9) cI 5 n_kd, ia (b 10) cI 5 n_ag, ia (b 11) cB 5 n_hS, ia (b 12) cB 5 n_iS, ia (b 13) cI 5 n_de, oN b n_fa n_tr n_mi (nI nj) (nI nc) (nI wl) n_at n_rm n_rj n_rc 0 0 n_rl (nI nr), ia (b 24) cI 5 (flF (-9) n_ho nc), ia (b 25) cI 6 (flF (-9) n_vd 6), ia (b 26) cB 5 (flF 0 n_iE nj)] rfl ?_
      refine v_iconst C 0 dX5_votes_27 (by decide) ?_
      refine v_istore_n C [(3, .int 0), (0, .ref (b 0)), (1, .int (nI cN)), (2, .int mi)] dX5_votes_28 (by decide) rfl ?_
      refine v_iconst C 0 dX5_votes_29 (by decide) ?_
      refine v_istore C [(4, .int 0), (3, .int 0), (0, .ref (b 0)), (1, .int (nI cN)), (2, .int mi)] dX5_votes_30 (by decide) rfl ?_
      refine v_perm (ws' := [oN b n_fa n_tr n_mi (nI nj) (nI nc) (nI wl) n_at n_rm n_rj n_rc 0 0 n_rl (nI nr), ia (b 9) cI 5 n_kd, ia (b 10) cI 5 n_ag, ia (b 11) cB 5 n_hS, ia (b 12) cB 5 n_iS, ia (b 26) cB 5 (flF 0 n_iE nj), ia (b 13) cI 5 n_de, ia (b 24) cI 5 (flF (-9) n_ho nc), ia (b 25) cI 6 (flF (-9) n_vd 6)]) [5, 0, 1, 2, 3, 8, 4, 6, 7] (by decide) rfl ?_
      have lp : ∀ (n_11 : Nat) (i : Nat) (m : Nat), nj - i < n_11 → (i ≤ nj) → (m = mk (gB n_kd n_ag s0 st (wl.testBit (dn cN)) mi) i) → V zp l ze (rmOf 2 45) zs zm [.ref (b 0), .int (nI cN), .int mi].toArray zb zt zc D (IM zA zs) (QMi zb [.ref (b 0), .int (nI cN), .int mi].toArray zs D cI cB cS [oN b n_fa n_tr n_mi (nI nj) (nI nc) (nI wl) n_at n_rm n_rj n_rc n_nw n_ov n_rl (nI nr), ia (b 9) cI 5 n_kd, ia (b 10) cI 5 n_ag, ia (b 11) cB 5 n_hS, ia (b 12) cB 5 n_iS, ia (b 26) cB 5 n_iE, ia (b 13) cI 5 n_de, ia (b 24) cI 5 n_ho, ia (b 25) cI 6 n_vd] zz (fun r w => ∃ (nw' : Int32) (ov' : Int32) (ho' : Nat → Int32) (vd' : Nat → Int32) (iE' : Nat → Int32), r = vtF nj nc n_kd n_ag s0 st wl dn (nI cN) mi ∧ w = [oN b n_fa n_tr n_mi (nI nj) (nI nc) (nI wl) n_at n_rm n_rj n_rc nw' ov' n_rl (nI nr), ia (b 9) cI 5 n_kd, ia (b 10) cI 5 n_ag, ia (b 11) cB 5 n_hS, ia (b 12) cB 5 n_iS, ia (b 26) cB 5 iE', ia (b 13) cI 5 n_de, ia (b 24) cI 5 ho', ia (b 25) cI 6 vd'])) 0 0 5 [oN b n_fa n_tr n_mi (nI nj) (nI nc) (nI wl) n_at n_rm n_rj n_rc 0 0 n_rl (nI nr), ia (b 9) cI 5 n_kd, ia (b 10) cI 5 n_ag, ia (b 11) cB 5 n_hS, ia (b 12) cB 5 n_iS, ia (b 26) cB 5 (flF 0 n_iE nj), ia (b 13) cI 5 n_de, ia (b 24) cI 5 (flF (-9) n_ho nc), ia (b 25) cI 6 (flF (-9) n_vd 6)] [(4, .int (nI i)), (3, .int (nI m)), (0, .ref (b 0)), (1, .int (nI cN)), (2, .int mi)] 32 [] := by
        intro n_11
        induction n_11 with
        | zero => intro i m b10; exact absurd b10 (by omega)
        | succ n_11 ihn_11 =>
          intro i m b10 hi hm
          refine v_iload C dX5_votes_32 0 rfl ?_
          refine v_aload_n C dX5_votes_34 2 rfl ?_
          refine v_get C f_X5_78 dX5_votes_35 0 rfl rfl ?_
          refine v_icmp_ge C 80 dX5_votes_38 (by decide) (fun c12 => ?_) (fun c12 => ?_)
          · have nc12 : nj ≤ i := nI_leD c12 (by omega)
            have hke : i = nj := by omega
            rw [hke] at hm
            refine v_iload_n C dX5_votes_80 1 rfl ?_
            exact v_reti C hA dX5_votes_81 rfl (⟨_, _, _, _, _, by first | (simp only [vtF, hm, zcN, c3, c6, c12, nc12, Nat.not_lt.mpr nc12, not_false_eq_true, not_true_eq_false, and_self, and_true, true_and, and_false, false_and, ↓reduceIte]; done) | (simp [vtF, hm, zcN, c3, c6, c12, nc12, Nat.not_lt.mpr nc12]; done), rfl⟩)
          · have nc12 : i < nj := nI_ltD c12 (by omega)
            have hin : i < nj := nc12
            have hie : flF 0 n_iE nj i = 0 := by simp [flF, hin]
            refine v_iload_n C dX5_votes_41 1 rfl ?_
            refine v_aload_n C dX5_votes_42 2 rfl ?_
            refine v_get C f_X5_29 dX5_votes_43 0 rfl rfl ?_
            refine v_iload C dX5_votes_46 0 rfl ?_
            refine v_zaldN C dX5_votes_48 4 rfl i rfl (by omega) (by decide) ?_
            refine v_eqi (bA st i) (hiS i hin) ?_
            refine v_if_ne C 71 dX5_votes_49 (by decide) (fun c13 => ?_) (fun c13 => ?_)
            · have hv : voB st i = false := by unfold voB; rw [bA_n.mp c13]; rfl
              refine v_iconst C 0 dX5_votes_71 (by decide) ?_
              refine v_ior C dX5_votes_72 ?_
              refine v_eqi (nI m) (or_zero m) ?_
              refine v_istore_n C [(3, .int (nI m)), (4, .int (nI i)), (0, .ref (b 0)), (1, .int (nI cN)), (2, .int mi)] dX5_votes_73 (by decide) rfl ?_
              refine v_iinc C (nI (i + 1)) [(4, .int (nI (i + 1))), (3, .int (nI m)), (0, .ref (b 0)), (1, .int (nI cN)), (2, .int mi)] 1 dX5_votes_74 rfl (nI_inc _) (by decide) rfl ?_
              refine v_goto C 32 dX5_votes_77 (by decide) ?_
              exact ihn_11 (i + 1) m (by omega) (by omega) (by rw [hm]; exact mk_skip (by unfold gB; rw [hv]; rfl))
            · have hv : voB st i = true := by unfold voB; rw [bA_0.mp c13]; rfl
              have hgs : (gB n_kd n_ag s0 st (wl.testBit (dn cN)) mi) i = true ↔ ¬ (n_kd i = 2 ∧ ¬ n_hS i = 0 ∧ flF 0 n_iE nj i = 0) ∧ (wl.testBit (dn cN) = true ∨ (n_kd i = 1 ∧ ¬ mi < 5 * n_ag i)) := by rw [gB_iff (cr := bI (wl.testBit (dn cN) = true)) hv (by cases wl.testBit (dn cN) <;> simp [bI]), hhS i hin, bA_n, hie]; cases wl.testBit (dn cN) <;> simp [bI]
              refine v_aload_n C dX5_votes_52 2 rfl ?_
              refine v_iload C dX5_votes_53 0 rfl ?_
              refine v_iload_n C dX5_votes_55 3 rfl ?_
              refine v_iload_n C dX5_votes_56 4 rfl ?_
              refine v_iconst C 0 dX5_votes_57 (by decide) ?_
              refine v_callMi C l_X5_156 (m_X5_isAgainst0 b wl cN (dn cN) i n_fa n_tr n_mi (nI nj) (nI nc) n_at n_rm n_rj n_rc 0 0 n_rl (nI nr) n_kd n_ag n_hS (flF 0 n_iE nj) n_de mi (by omega) (by omega) (hde cN hcN).1 (hde cN hcN).2 hwl) (by decide) dX5_votes_58 [0, 1, 2, 3, 5, 6] [4, 7, 8] (wr := [ia (b 12) cB 5 n_iS, ia (b 24) cI 5 (flF (-9) n_ho nc), ia (b 25) cI 6 (flF (-9) n_vd 6)]) (by decide) rfl rfl (by decide) (by decide) 0 rfl rfl rfl (rest := [.int (nI m)]) rfl (Nat.le_of_ble_eq_true rfl) (by decide) (fun r16 w14 h15 => ?_)
              obtain ⟨rfl, rfl⟩ := h15
              refine v_ws0 [ia (b 12) cB 5 n_iS, ia (b 24) cI 5 (flF (-9) n_ho nc), ia (b 25) cI 6 (flF (-9) n_vd 6), oN b n_fa n_tr n_mi (nI nj) (nI nc) (nI wl) n_at n_rm n_rj n_rc 0 0 n_rl (nI nr), ia (b 9) cI 5 n_kd, ia (b 10) cI 5 n_ag, ia (b 11) cB 5 n_hS, ia (b 26) cB 5 (if n_kd i = 2 ∧ ¬ n_hS i = 0 ∧ (flF 0 n_iE nj) i = 0 then upd (flF 0 n_iE nj) i 0 else (flF 0 n_iE nj)), ia (b 13) cI 5 n_de] rfl ?_
              by_cases c17 : ¬ (n_kd i = 2 ∧ ¬ n_hS i = 0 ∧ (flF 0 n_iE nj) i = 0) ∧ (wl.testBit (dn cN) = true ∨ (n_kd i = 1 ∧ ¬ mi < 5 * n_ag i))
              · refine v_eqi 1 (bI_t c17) ?_
                refine v_ws0 [ia (b 12) cB 5 n_iS, ia (b 24) cI 5 (flF (-9) n_ho nc), ia (b 25) cI 6 (flF (-9) n_vd 6), oN b n_fa n_tr n_mi (nI nj) (nI nc) (nI wl) n_at n_rm n_rj n_rc 0 0 n_rl (nI nr), ia (b 9) cI 5 n_kd, ia (b 10) cI 5 n_ag, ia (b 11) cB 5 n_hS, ia (b 26) cB 5 (flF 0 n_iE nj), ia (b 13) cI 5 n_de] (by rw [ea_keep hie]) ?_
                refine v_if_eq C 71 dX5_votes_61 (by decide) (fun h => absurd h (by decide)) (fun _ => ?_)
                refine v_iconst C 1 dX5_votes_64 (by decide) ?_
                refine v_iload C dX5_votes_65 0 rfl ?_
                refine v_ishl C dX5_votes_67 ?_
                refine v_goto C 72 dX5_votes_68 (by decide) ?_
                refine v_ior C dX5_votes_72 ?_
                refine v_eqi (nI (set1 m i)) (raw_set m (by rw [hm]; have t := mk_lt (gB n_kd n_ag s0 st (wl.testBit (dn cN)) mi) i; have := Nat.pow_le_pow_right (n := 2) (by omega) (show i ≤ 5 by omega); omega) i (by omega)) ?_
                refine v_istore_n C [(3, .int (nI (set1 m i))), (4, .int (nI i)), (0, .ref (b 0)), (1, .int (nI cN)), (2, .int mi)] dX5_votes_73 (by decide) rfl ?_
                refine v_iinc C (nI (i + 1)) [(4, .int (nI (i + 1))), (3, .int (nI (set1 m i))), (0, .ref (b 0)), (1, .int (nI cN)), (2, .int mi)] 1 dX5_votes_74 rfl (nI_inc _) (by decide) rfl ?_
                refine v_goto C 32 dX5_votes_77 (by decide) ?_
                refine v_perm (ws' := [oN b n_fa n_tr n_mi (nI nj) (nI nc) (nI wl) n_at n_rm n_rj n_rc 0 0 n_rl (nI nr), ia (b 9) cI 5 n_kd, ia (b 10) cI 5 n_ag, ia (b 11) cB 5 n_hS, ia (b 12) cB 5 n_iS, ia (b 26) cB 5 (flF 0 n_iE nj), ia (b 13) cI 5 n_de, ia (b 24) cI 5 (flF (-9) n_ho nc), ia (b 25) cI 6 (flF (-9) n_vd 6)]) [3, 4, 5, 6, 0, 7, 8, 1, 2] (by decide) rfl ?_
                exact ihn_11 (i + 1) (set1 m i) (by omega) (by omega) (by rw [hm]; exact set1_mk (by omega) (hgs.mpr c17))
              · refine v_eqi 0 (bI_f c17) ?_
                refine v_ws0 [ia (b 12) cB 5 n_iS, ia (b 24) cI 5 (flF (-9) n_ho nc), ia (b 25) cI 6 (flF (-9) n_vd 6), oN b n_fa n_tr n_mi (nI nj) (nI nc) (nI wl) n_at n_rm n_rj n_rc 0 0 n_rl (nI nr), ia (b 9) cI 5 n_kd, ia (b 10) cI 5 n_ag, ia (b 11) cB 5 n_hS, ia (b 26) cB 5 (flF 0 n_iE nj), ia (b 13) cI 5 n_de] (by rw [ea_keep hie]) ?_
                refine v_if_eq C 71 dX5_votes_61 (by decide) (fun _ => ?_) (fun h => absurd h (by decide))
                refine v_iconst C 0 dX5_votes_71 (by decide) ?_
                refine v_ior C dX5_votes_72 ?_
                refine v_eqi (nI m) (or_zero m) ?_
                refine v_istore_n C [(3, .int (nI m)), (4, .int (nI i)), (0, .ref (b 0)), (1, .int (nI cN)), (2, .int mi)] dX5_votes_73 (by decide) rfl ?_
                refine v_iinc C (nI (i + 1)) [(4, .int (nI (i + 1))), (3, .int (nI m)), (0, .ref (b 0)), (1, .int (nI cN)), (2, .int mi)] 1 dX5_votes_74 rfl (nI_inc _) (by decide) rfl ?_
                refine v_goto C 32 dX5_votes_77 (by decide) ?_
                refine v_perm (ws' := [oN b n_fa n_tr n_mi (nI nj) (nI nc) (nI wl) n_at n_rm n_rj n_rc 0 0 n_rl (nI nr), ia (b 9) cI 5 n_kd, ia (b 10) cI 5 n_ag, ia (b 11) cB 5 n_hS, ia (b 12) cB 5 n_iS, ia (b 26) cB 5 (flF 0 n_iE nj), ia (b 13) cI 5 n_de, ia (b 24) cI 5 (flF (-9) n_ho nc), ia (b 25) cI 6 (flF (-9) n_vd 6)]) [3, 4, 5, 6, 0, 7, 8, 1, 2] (by decide) rfl ?_
                exact ihn_11 (i + 1) m (by omega) (by omega) (by rw [hm]; exact mk_skip (eq_false_of_ne_true (fun q => c17 (hgs.mp q))))
      exact lp (nj - 0 + 1) 0 0 (by omega) (by omega) rfl
    · refine v_eqi 0 (bI_f c6) ?_
      rw [wib_m] at c6
      refine v_if_ne C 23 dX5_votes_17 (by decide) (fun h => absurd h (by decide)) (fun _ => ?_)
      refine v_bipush C (-2) dX5_votes_20 (by decide) ?_
      exact v_reti C hA dX5_votes_22 rfl (⟨_, _, _, _, _, by first | (simp only [vtF, bI, zcN, c3, c6, not_false_eq_true, not_true_eq_false, and_self, and_true, true_and, and_false, false_and, ↓reduceIte]; done) | (simp only [vtF, bI, zcN, c3, c6, not_false_eq_true, not_true_eq_false, and_self, and_true, true_and, and_false, false_and, ↓reduceIte]; rfl) | (simp [vtF, bI, zcN, c3, c6]; done) | rfl, by first | (simp only [vtF, bI, zcN, c3, c6, not_false_eq_true, not_true_eq_false, and_self, and_true, true_and, and_false, false_and, ↓reduceIte]; done) | (simp only [vtF, bI, zcN, c3, c6, not_false_eq_true, not_true_eq_false, and_self, and_true, true_and, and_false, false_and, ↓reduceIte]; rfl) | (simp [vtF, bI, zcN, c3, c6]; done) | rfl⟩)
  · refine v_eqi 0 (bI_f c3) ?_
    refine v_if_ne C 10 dX5_votes_5 (by decide) (fun h => absurd h (by decide)) (fun _ => ?_)
    refine v_iconst C (-1) dX5_votes_8 (by decide) ?_
    exact v_reti C hA dX5_votes_9 rfl (⟨_, _, _, _, _, by first | (simp only [vtF, bI, c3, not_false_eq_true, not_true_eq_false, and_self, and_true, true_and, and_false, false_and, ↓reduceIte]; done) | (simp only [vtF, bI, c3, not_false_eq_true, not_true_eq_false, and_self, and_true, true_and, and_false, false_and, ↓reduceIte]; rfl) | (simp [vtF, bI, c3]; done) | rfl, by first | (simp only [vtF, bI, c3, not_false_eq_true, not_true_eq_false, and_self, and_true, true_and, and_false, false_and, ↓reduceIte]; done) | (simp only [vtF, bI, c3, not_false_eq_true, not_true_eq_false, and_self, and_true, true_and, and_false, false_and, ↓reduceIte]; rfl) | (simp [vtF, bI, c3]; done) | rfl⟩)
