theorem cy_0 (f : Nat → Int32) (a b : Nat) : va_cpy f f a b 0 = f := by
  funext p
  exact pk_cpy_out (by omega)
theorem cy_s {f : Nat → Int32} {a b q : Nat} : upd (va_cpy f f a b q) (b + q) (f (a + q)) = va_cpy f f a b (q + 1) := by
  funext p
  unfold upd
  by_cases e : p = b + q
  · rw [if_pos e, pk_cpy_in (by omega) (by omega)]
    exact congrArg f (by omega)
  · rw [if_neg e]
    by_cases e2 : b ≤ p ∧ p < b + q
    · rw [pk_cpy_in e2.1 e2.2, pk_cpy_in e2.1 (by omega)]
    · rw [pk_cpy_out (by omega), pk_cpy_out (by omega)]
theorem cy_d {f : Nat → Int32} {a b n q : Nat} (h : q < n) : upd (va_cpy f f (a + n - q) (b + n - q) q) (b + (n - 1 - q)) (f (a + (n - 1 - q))) = va_cpy f f (a + n - (q + 1)) (b + n - (q + 1)) (q + 1) := by
  funext p
  unfold upd
  by_cases e : p = b + (n - 1 - q)
  · rw [if_pos e, pk_cpy_in (by omega) (by omega)]
    exact congrArg f (by omega)
  · rw [if_neg e]
    by_cases e2 : b + n - q ≤ p ∧ p < b + n - q + q
    · rw [pk_cpy_in e2.1 e2.2, pk_cpy_in (by omega) (by omega)]
      exact congrArg f (by omega)
    · rw [pk_cpy_out (by omega), pk_cpy_out (by omega)]
set_option maxHeartbeats 4000000 in
set_option maxRecDepth 100000 in
theorem m_X5_copy {l : Launch} {D : va_G} {cI cB cS : ClassId} (b : Nat → Nat) (k g : Nat) (hs sl : Int32) (k2 g2 : Nat) (hs2 sl2 : Int32) (n_fa : Int32) (n_tr : Int32) (n_mi : Int32) (n_ju : Int32) (n_co : Int32) (n_cr : Int32) (n_at : Int32) (n_rm : Int32) (n_rj : Int32) (n_rc : Int32) (n_nw : Int32) (n_ov : Int32) (n_rl : Int32) (n_rd : Int32) (n_so : Nat → Int32) (n_sl : Nat → Int32) (n_ce : Nat → Int32) (q : Int32) (i : Int32) (q2 : Int32) (j : Int32) (n : Int32) (hk : k < 4) (hg : g ≤ 60) (hq : vS q → q = nI k) (hso : n_so k = soF hs sl) (hsn : n_sl k = nI g) (hlv : ¬ hs = 0 → ¬ sl = -9) (hk2 : k2 < 4) (hg2 : g2 ≤ 60) (hq2 : vS q2 → q2 = nI k2) (hso2 : n_so k2 = soF hs2 sl2) (hsn2 : n_sl k2 = nI g2) (hlv2 : ¬ hs2 = 0 → ¬ sl2 = -9) : Mi l yX5_copy cX5_copy 10 (some .int) 2 42 D cI cB cS [.ref (b 0), .int q, .int i, .int q2, .int j, .int n] [oN b n_fa n_tr n_mi n_ju n_co n_cr n_at n_rm n_rj n_rc n_nw n_ov n_rl n_rd, ia (b 2) cI 4 n_so, ia (b 3) cI 4 n_sl, ia (b 4) cI 240 n_ce] (fun r w => r = cyF q q2 hs hs2 sl sl2 g g2 i j n ∧ w = [oN b (cyT q q2 hs hs2 sl sl2 g g2 i j n) n_tr n_mi n_ju n_co n_cr n_at n_rm n_rj n_rc n_nw n_ov n_rl n_rd, ia (b 2) cI 4 n_so, ia (b 3) cI 4 n_sl, ia (b 4) cI 240 (if cyOk q q2 hs hs2 sl sl2 g g2 i j n then va_cpy n_ce n_ce (60 * k + zN i) (60 * k2 + zN j) (zN n) else n_ce)]) := by
  refine Mi.of (by decide) (Nat.le_of_ble_eq_true rfl) ?_
  intro zp ze zs zm zb zt zc zz zA hA C hnm
  refine v_lv0 [(0, .ref (b 0)), (1, .int q), (2, .int i), (3, .int q2), (4, .int j), (5, .int n)] rfl ?_
  refine v_aload_n C dX5_copy_0 0 rfl ?_
  refine v_iconst C 0 dX5_copy_1 (by decide) ?_
  refine v_put C p_X5_68 [oN b 0 n_tr n_mi n_ju n_co n_cr n_at n_rm n_rj n_rc n_nw n_ov n_rl n_rd, ia (b 2) cI 4 n_so, ia (b 3) cI 4 n_sl, ia (b 4) cI 240 n_ce] dX5_copy_2 0 rfl rfl rfl (Nat.le_of_ble_eq_true rfl) rfl ?_
  refine v_iload_n C dX5_copy_5 1 rfl ?_
  refine v_callSi C l_X5_87 (m_X5_isSheet q) (by decide) dX5_copy_6 [] rfl rfl (rest := []) rfl (Nat.le_of_ble_eq_true rfl) (by decide) (fun r1 h2 => ?_)
  subst h2
  by_cases c3 : vSb q = true
  · refine v_eqi 1 (bI_t c3) ?_
    have eq := hq c3
    subst eq
    refine v_if_eq C 19 dX5_copy_9 (by decide) (fun h => absurd h (by decide)) (fun _ => ?_)
    refine v_iload_n C dX5_copy_12 3 rfl ?_
    refine v_callSi C l_X5_87 (m_X5_isSheet q2) (by decide) dX5_copy_13 [] rfl rfl (rest := []) rfl (Nat.le_of_ble_eq_true rfl) (by decide) (fun r4 h5 => ?_)
    subst h5
    by_cases c6 : vSb q2 = true
    · refine v_eqi 1 (bI_t c6) ?_
      have eq2 := hq2 c6
      subst eq2
      refine v_if_ne C 21 dX5_copy_16 (by decide) (fun _ => ?_) (fun h => absurd h (by decide))
      refine v_aload_n C dX5_copy_21 0 rfl ?_
      refine v_get C f_X5_9 dX5_copy_22 0 rfl rfl ?_
      refine v_iload_n C dX5_copy_25 1 rfl ?_
      refine v_ialdN C dX5_copy_26 1 rfl k rfl (by omega) (by decide) ?_
      refine v_eqi (soF hs sl) (hso) ?_
      refine v_bipush C (-9) dX5_copy_27 (by decide) ?_
      refine v_icmp_eq C 43 dX5_copy_29 (by decide) (fun c7 => ?_) (fun c7 => ?_)
      · have zh8 : hs = 0 := (so_9 hlv).mp c7
        refine v_aload_n C dX5_copy_43 0 rfl ?_
        refine v_iconst C 1 dX5_copy_44 (by decide) ?_
        refine v_callMi C l_X5_98 (m_X5_fails b 0 n_tr n_mi n_ju n_co n_cr n_at n_rm n_rj n_rc n_nw n_ov n_rl n_rd 1) (by decide) dX5_copy_45 [0] [1, 2, 3] (wr := [ia (b 2) cI 4 n_so, ia (b 3) cI 4 n_sl, ia (b 4) cI 240 n_ce]) (by decide) rfl rfl (by decide) (by decide) 0 rfl rfl rfl (rest := []) rfl (Nat.le_of_ble_eq_true rfl) (by decide) (fun r11 w9 h10 => ?_)
        obtain ⟨rfl, rfl⟩ := h10
        refine v_ws0 [ia (b 2) cI 4 n_so, ia (b 3) cI 4 n_sl, ia (b 4) cI 240 n_ce, oN b (1 : Int32) n_tr n_mi n_ju n_co n_cr n_at n_rm n_rj n_rc n_nw n_ov n_rl n_rd] rfl ?_
        refine v_perm (ws' := [oN b (1 : Int32) n_tr n_mi n_ju n_co n_cr n_at n_rm n_rj n_rc n_nw n_ov n_rl n_rd, ia (b 2) cI 4 n_so, ia (b 3) cI 4 n_sl, ia (b 4) cI 240 n_ce]) [3, 0, 1, 2] (by decide) rfl ?_
        exact v_reti C hA dX5_copy_48 rfl (⟨by first | (simp only [cyF, cyT, cyOk, vS, hcB, bI, c3, c6, c7, zh8, not_false_eq_true, not_true_eq_false, and_self, and_true, true_and, and_false, false_and, ↓reduceIte]; done) | (simp only [cyF, cyT, cyOk, vS, hcB, bI, c3, c6, c7, zh8, not_false_eq_true, not_true_eq_false, and_self, and_true, true_and, and_false, false_and, ↓reduceIte]; rfl) | (simp [cyF, cyT, cyOk, vS, hcB, bI, c3, c6, c7, zh8]; done) | rfl, by first | (simp only [cyF, cyT, cyOk, vS, hcB, bI, c3, c6, c7, zh8, not_false_eq_true, not_true_eq_false, and_self, and_true, true_and, and_false, false_and, ↓reduceIte]; done) | (simp only [cyF, cyT, cyOk, vS, hcB, bI, c3, c6, c7, zh8, not_false_eq_true, not_true_eq_false, and_self, and_true, true_and, and_false, false_and, ↓reduceIte]; rfl) | (simp [cyF, cyT, cyOk, vS, hcB, bI, c3, c6, c7, zh8]; done) | rfl⟩)
      · have zh12 : ¬ hs = 0 := fun q => c7 ((so_9 hlv).mpr q)
        refine v_aload_n C dX5_copy_32 0 rfl ?_
        refine v_get C f_X5_9 dX5_copy_33 0 rfl rfl ?_
        refine v_iload_n C dX5_copy_36 3 rfl ?_
        refine v_ialdN C dX5_copy_37 1 rfl k2 rfl (by omega) (by decide) ?_
        refine v_eqi (soF hs2 sl2) (hso2) ?_
        refine v_bipush C (-9) dX5_copy_38 (by decide) ?_
        refine v_icmp_ne C 49 dX5_copy_40 (by decide) (fun c13 => ?_) (fun c13 => ?_)
        · have zh14 : ¬ hs2 = 0 := fun q => c13 ((so_9 hlv2).mpr q)
          refine v_aload_n C dX5_copy_49 0 rfl ?_
          refine v_get C f_X5_9 dX5_copy_50 0 rfl rfl ?_
          refine v_iload_n C dX5_copy_53 1 rfl ?_
          refine v_ialdN C dX5_copy_54 1 rfl k rfl (by omega) (by decide) ?_
          refine v_eqi (sl) (by rw [hso, soF, if_neg zh12]) ?_
          refine v_aload_n C dX5_copy_55 0 rfl ?_
          refine v_get C f_X5_9 dX5_copy_56 0 rfl rfl ?_
          refine v_iload_n C dX5_copy_59 3 rfl ?_
          refine v_ialdN C dX5_copy_60 1 rfl k2 rfl (by omega) (by decide) ?_
          refine v_eqi (sl2) (by rw [hso2, soF, if_neg zh14]) ?_
          refine v_icmp_eq C 70 dX5_copy_61 (by decide) (fun c15 => ?_) (fun c15 => ?_)
          · refine v_iload_n C dX5_copy_70 2 rfl ?_
            refine v_if_lt C 109 dX5_copy_71 (by decide) (fun c16 => ?_) (fun c16 => ?_)
            · refine v_iconst C 0 dX5_copy_109 (by decide) ?_
              refine v_istore C [(6, .int 0), (0, .ref (b 0)), (1, .int (nI k)), (2, .int i), (3, .int (nI k2)), (4, .int j), (5, .int n)] dX5_copy_110 (by decide) rfl ?_
              refine v_iload C dX5_copy_112 0 rfl ?_
              refine v_if_eq C 144 dX5_copy_114 (by decide) (fun _ => ?_) (fun h => absurd h (by decide))
              have zf : ¬ (hcB g i n ∧ hcB g2 j n) := by intro q; have a := (hcb_iff _ _ _).mp q.1; have b := (hcb_iff _ _ _).mp q.2; exact a.1 c16
              refine v_aload_n C dX5_copy_144 1 rfl ?_
              refine v_iconst C 3 dX5_copy_145 (by decide) ?_
              refine v_callMi C l_X5_98 (m_X5_fails b 0 n_tr n_mi n_ju n_co n_cr n_at n_rm n_rj n_rc n_nw n_ov n_rl n_rd 3) (by decide) dX5_copy_146 [0] [1, 2, 3] (wr := [ia (b 2) cI 4 n_so, ia (b 3) cI 4 n_sl, ia (b 4) cI 240 n_ce]) (by decide) rfl rfl (by decide) (by decide) 0 rfl rfl rfl (rest := []) rfl (Nat.le_of_ble_eq_true rfl) (by decide) (fun r19 w17 h18 => ?_)
              obtain ⟨rfl, rfl⟩ := h18
              refine v_ws0 [ia (b 2) cI 4 n_so, ia (b 3) cI 4 n_sl, ia (b 4) cI 240 n_ce, oN b (3 : Int32) n_tr n_mi n_ju n_co n_cr n_at n_rm n_rj n_rc n_nw n_ov n_rl n_rd] rfl ?_
              refine v_perm (ws' := [oN b (3 : Int32) n_tr n_mi n_ju n_co n_cr n_at n_rm n_rj n_rc n_nw n_ov n_rl n_rd, ia (b 2) cI 4 n_so, ia (b 3) cI 4 n_sl, ia (b 4) cI 240 n_ce]) [3, 0, 1, 2] (by decide) rfl ?_
              exact v_reti C hA dX5_copy_149 rfl (⟨by first | (simp only [cyF, cyT, cyOk, vS, hcB, bI, c3, c6, c7, zh12, c13, zh14, c15, c16, zf, not_false_eq_true, not_true_eq_false, and_self, and_true, true_and, and_false, false_and, ↓reduceIte]; done) | (simp only [cyF, cyT, cyOk, vS, hcB, bI, c3, c6, c7, zh12, c13, zh14, c15, c16, zf, not_false_eq_true, not_true_eq_false, and_self, and_true, true_and, and_false, false_and, ↓reduceIte]; rfl) | (simp [cyF, cyT, cyOk, vS, hcB, bI, c3, c6, c7, zh12, c13, zh14, c15, c16, zf]; done) | rfl, by first | (simp only [cyF, cyT, cyOk, vS, hcB, bI, c3, c6, c7, zh12, c13, zh14, c15, c16, zf, not_false_eq_true, not_true_eq_false, and_self, and_true, true_and, and_false, false_and, ↓reduceIte]; done) | (simp only [cyF, cyT, cyOk, vS, hcB, bI, c3, c6, c7, zh12, c13, zh14, c15, c16, zf, not_false_eq_true, not_true_eq_false, and_self, and_true, true_and, and_false, false_and, ↓reduceIte]; rfl) | (simp [cyF, cyT, cyOk, vS, hcB, bI, c3, c6, c7, zh12, c13, zh14, c15, c16, zf]; done) | rfl⟩)
            · refine v_iload C dX5_copy_74 4 rfl ?_
              refine v_if_lt C 109 dX5_copy_76 (by decide) (fun c20 => ?_) (fun c20 => ?_)
              · refine v_iconst C 0 dX5_copy_109 (by decide) ?_
                refine v_istore C [(6, .int 0), (0, .ref (b 0)), (1, .int (nI k)), (2, .int i), (3, .int (nI k2)), (4, .int j), (5, .int n)] dX5_copy_110 (by decide) rfl ?_
                refine v_iload C dX5_copy_112 0 rfl ?_
                refine v_if_eq C 144 dX5_copy_114 (by decide) (fun _ => ?_) (fun h => absurd h (by decide))
                have zf : ¬ (hcB g i n ∧ hcB g2 j n) := by intro q; have a := (hcb_iff _ _ _).mp q.1; have b := (hcb_iff _ _ _).mp q.2; exact b.1 c20
                refine v_aload_n C dX5_copy_144 1 rfl ?_
                refine v_iconst C 3 dX5_copy_145 (by decide) ?_
                refine v_callMi C l_X5_98 (m_X5_fails b 0 n_tr n_mi n_ju n_co n_cr n_at n_rm n_rj n_rc n_nw n_ov n_rl n_rd 3) (by decide) dX5_copy_146 [0] [1, 2, 3] (wr := [ia (b 2) cI 4 n_so, ia (b 3) cI 4 n_sl, ia (b 4) cI 240 n_ce]) (by decide) rfl rfl (by decide) (by decide) 0 rfl rfl rfl (rest := []) rfl (Nat.le_of_ble_eq_true rfl) (by decide) (fun r23 w21 h22 => ?_)
                obtain ⟨rfl, rfl⟩ := h22
                refine v_ws0 [ia (b 2) cI 4 n_so, ia (b 3) cI 4 n_sl, ia (b 4) cI 240 n_ce, oN b (3 : Int32) n_tr n_mi n_ju n_co n_cr n_at n_rm n_rj n_rc n_nw n_ov n_rl n_rd] rfl ?_
                refine v_perm (ws' := [oN b (3 : Int32) n_tr n_mi n_ju n_co n_cr n_at n_rm n_rj n_rc n_nw n_ov n_rl n_rd, ia (b 2) cI 4 n_so, ia (b 3) cI 4 n_sl, ia (b 4) cI 240 n_ce]) [3, 0, 1, 2] (by decide) rfl ?_
                exact v_reti C hA dX5_copy_149 rfl (⟨by first | (simp only [cyF, cyT, cyOk, vS, hcB, bI, c3, c6, c7, zh12, c13, zh14, c15, c16, c20, zf, not_false_eq_true, not_true_eq_false, and_self, and_true, true_and, and_false, false_and, ↓reduceIte]; done) | (simp only [cyF, cyT, cyOk, vS, hcB, bI, c3, c6, c7, zh12, c13, zh14, c15, c16, c20, zf, not_false_eq_true, not_true_eq_false, and_self, and_true, true_and, and_false, false_and, ↓reduceIte]; rfl) | (simp [cyF, cyT, cyOk, vS, hcB, bI, c3, c6, c7, zh12, c13, zh14, c15, c16, c20, zf]; done) | rfl, by first | (simp only [cyF, cyT, cyOk, vS, hcB, bI, c3, c6, c7, zh12, c13, zh14, c15, c16, c20, zf, not_false_eq_true, not_true_eq_false, and_self, and_true, true_and, and_false, false_and, ↓reduceIte]; done) | (simp only [cyF, cyT, cyOk, vS, hcB, bI, c3, c6, c7, zh12, c13, zh14, c15, c16, c20, zf, not_false_eq_true, not_true_eq_false, and_self, and_true, true_and, and_false, false_and, ↓reduceIte]; rfl) | (simp [cyF, cyT, cyOk, vS, hcB, bI, c3, c6, c7, zh12, c13, zh14, c15, c16, c20, zf]; done) | rfl⟩)
              · refine v_iload C dX5_copy_79 5 rfl ?_
                refine v_if_lt C 109 dX5_copy_81 (by decide) (fun c24 => ?_) (fun c24 => ?_)
                · refine v_iconst C 0 dX5_copy_109 (by decide) ?_
                  refine v_istore C [(6, .int 0), (0, .ref (b 0)), (1, .int (nI k)), (2, .int i), (3, .int (nI k2)), (4, .int j), (5, .int n)] dX5_copy_110 (by decide) rfl ?_
                  refine v_iload C dX5_copy_112 0 rfl ?_
                  refine v_if_eq C 144 dX5_copy_114 (by decide) (fun _ => ?_) (fun h => absurd h (by decide))
                  have zf : ¬ (hcB g i n ∧ hcB g2 j n) := by intro q; have a := (hcb_iff _ _ _).mp q.1; have b := (hcb_iff _ _ _).mp q.2; exact a.2.1 c24
                  refine v_aload_n C dX5_copy_144 1 rfl ?_
                  refine v_iconst C 3 dX5_copy_145 (by decide) ?_
                  refine v_callMi C l_X5_98 (m_X5_fails b 0 n_tr n_mi n_ju n_co n_cr n_at n_rm n_rj n_rc n_nw n_ov n_rl n_rd 3) (by decide) dX5_copy_146 [0] [1, 2, 3] (wr := [ia (b 2) cI 4 n_so, ia (b 3) cI 4 n_sl, ia (b 4) cI 240 n_ce]) (by decide) rfl rfl (by decide) (by decide) 0 rfl rfl rfl (rest := []) rfl (Nat.le_of_ble_eq_true rfl) (by decide) (fun r27 w25 h26 => ?_)
                  obtain ⟨rfl, rfl⟩ := h26
                  refine v_ws0 [ia (b 2) cI 4 n_so, ia (b 3) cI 4 n_sl, ia (b 4) cI 240 n_ce, oN b (3 : Int32) n_tr n_mi n_ju n_co n_cr n_at n_rm n_rj n_rc n_nw n_ov n_rl n_rd] rfl ?_
                  refine v_perm (ws' := [oN b (3 : Int32) n_tr n_mi n_ju n_co n_cr n_at n_rm n_rj n_rc n_nw n_ov n_rl n_rd, ia (b 2) cI 4 n_so, ia (b 3) cI 4 n_sl, ia (b 4) cI 240 n_ce]) [3, 0, 1, 2] (by decide) rfl ?_
                  exact v_reti C hA dX5_copy_149 rfl (⟨by first | (simp only [cyF, cyT, cyOk, vS, hcB, bI, c3, c6, c7, zh12, c13, zh14, c15, c16, c20, c24, zf, not_false_eq_true, not_true_eq_false, and_self, and_true, true_and, and_false, false_and, ↓reduceIte]; done) | (simp only [cyF, cyT, cyOk, vS, hcB, bI, c3, c6, c7, zh12, c13, zh14, c15, c16, c20, c24, zf, not_false_eq_true, not_true_eq_false, and_self, and_true, true_and, and_false, false_and, ↓reduceIte]; rfl) | (simp [cyF, cyT, cyOk, vS, hcB, bI, c3, c6, c7, zh12, c13, zh14, c15, c16, c20, c24, zf]; done) | rfl, by first | (simp only [cyF, cyT, cyOk, vS, hcB, bI, c3, c6, c7, zh12, c13, zh14, c15, c16, c20, c24, zf, not_false_eq_true, not_true_eq_false, and_self, and_true, true_and, and_false, false_and, ↓reduceIte]; done) | (simp only [cyF, cyT, cyOk, vS, hcB, bI, c3, c6, c7, zh12, c13, zh14, c15, c16, c20, c24, zf, not_false_eq_true, not_true_eq_false, and_self, and_true, true_and, and_false, false_and, ↓reduceIte]; rfl) | (simp [cyF, cyT, cyOk, vS, hcB, bI, c3, c6, c7, zh12, c13, zh14, c15, c16, c20, c24, zf]; done) | rfl⟩)
                · refine v_iload_n C dX5_copy_84 2 rfl ?_
                  refine v_aload_n C dX5_copy_85 0 rfl ?_
                  refine v_get C f_X5_13 dX5_copy_86 0 rfl rfl ?_
                  refine v_iload_n C dX5_copy_89 1 rfl ?_
                  refine v_ialdN C dX5_copy_90 2 rfl k rfl (by omega) (by decide) ?_
                  refine v_eqi (nI g) (hsn) ?_
                  refine v_icmp_gt C 109 dX5_copy_91 (by decide) (fun c28 => ?_) (fun c28 => ?_)
                  · refine v_iconst C 0 dX5_copy_109 (by decide) ?_
                    refine v_istore C [(6, .int 0), (0, .ref (b 0)), (1, .int (nI k)), (2, .int i), (3, .int (nI k2)), (4, .int j), (5, .int n)] dX5_copy_110 (by decide) rfl ?_
                    refine v_iload C dX5_copy_112 0 rfl ?_
                    refine v_if_eq C 144 dX5_copy_114 (by decide) (fun _ => ?_) (fun h => absurd h (by decide))
                    have zf : ¬ (hcB g i n ∧ hcB g2 j n) := by intro q; have a := (hcb_iff _ _ _).mp q.1; have b := (hcb_iff _ _ _).mp q.2; exact a.2.2.1 c28
                    refine v_aload_n C dX5_copy_144 1 rfl ?_
                    refine v_iconst C 3 dX5_copy_145 (by decide) ?_
                    refine v_callMi C l_X5_98 (m_X5_fails b 0 n_tr n_mi n_ju n_co n_cr n_at n_rm n_rj n_rc n_nw n_ov n_rl n_rd 3) (by decide) dX5_copy_146 [0] [1, 2, 3] (wr := [ia (b 2) cI 4 n_so, ia (b 3) cI 4 n_sl, ia (b 4) cI 240 n_ce]) (by decide) rfl rfl (by decide) (by decide) 0 rfl rfl rfl (rest := []) rfl (Nat.le_of_ble_eq_true rfl) (by decide) (fun r31 w29 h30 => ?_)
                    obtain ⟨rfl, rfl⟩ := h30
                    refine v_ws0 [ia (b 2) cI 4 n_so, ia (b 3) cI 4 n_sl, ia (b 4) cI 240 n_ce, oN b (3 : Int32) n_tr n_mi n_ju n_co n_cr n_at n_rm n_rj n_rc n_nw n_ov n_rl n_rd] rfl ?_
                    refine v_perm (ws' := [oN b (3 : Int32) n_tr n_mi n_ju n_co n_cr n_at n_rm n_rj n_rc n_nw n_ov n_rl n_rd, ia (b 2) cI 4 n_so, ia (b 3) cI 4 n_sl, ia (b 4) cI 240 n_ce]) [3, 0, 1, 2] (by decide) rfl ?_
                    exact v_reti C hA dX5_copy_149 rfl (⟨by first | (simp only [cyF, cyT, cyOk, vS, hcB, bI, c3, c6, c7, zh12, c13, zh14, c15, c16, c20, c24, c28, zf, not_false_eq_true, not_true_eq_false, and_self, and_true, true_and, and_false, false_and, ↓reduceIte]; done) | (simp only [cyF, cyT, cyOk, vS, hcB, bI, c3, c6, c7, zh12, c13, zh14, c15, c16, c20, c24, c28, zf, not_false_eq_true, not_true_eq_false, and_self, and_true, true_and, and_false, false_and, ↓reduceIte]; rfl) | (simp [cyF, cyT, cyOk, vS, hcB, bI, c3, c6, c7, zh12, c13, zh14, c15, c16, c20, c24, c28, zf]; done) | rfl, by first | (simp only [cyF, cyT, cyOk, vS, hcB, bI, c3, c6, c7, zh12, c13, zh14, c15, c16, c20, c24, c28, zf, not_false_eq_true, not_true_eq_false, and_self, and_true, true_and, and_false, false_and, ↓reduceIte]; done) | (simp only [cyF, cyT, cyOk, vS, hcB, bI, c3, c6, c7, zh12, c13, zh14, c15, c16, c20, c24, c28, zf, not_false_eq_true, not_true_eq_false, and_self, and_true, true_and, and_false, false_and, ↓reduceIte]; rfl) | (simp [cyF, cyT, cyOk, vS, hcB, bI, c3, c6, c7, zh12, c13, zh14, c15, c16, c20, c24, c28, zf]; done) | rfl⟩)
                  · refine v_iload C dX5_copy_94 4 rfl ?_
                    refine v_aload_n C dX5_copy_96 0 rfl ?_
                    refine v_get C f_X5_13 dX5_copy_97 0 rfl rfl ?_
                    refine v_iload_n C dX5_copy_100 3 rfl ?_
                    refine v_ialdN C dX5_copy_101 2 rfl k2 rfl (by omega) (by decide) ?_
                    refine v_eqi (nI g2) (hsn2) ?_
                    refine v_icmp_gt C 109 dX5_copy_102 (by decide) (fun c32 => ?_) (fun c32 => ?_)
                    · refine v_iconst C 0 dX5_copy_109 (by decide) ?_
                      refine v_istore C [(6, .int 0), (0, .ref (b 0)), (1, .int (nI k)), (2, .int i), (3, .int (nI k2)), (4, .int j), (5, .int n)] dX5_copy_110 (by decide) rfl ?_
                      refine v_iload C dX5_copy_112 0 rfl ?_
                      refine v_if_eq C 144 dX5_copy_114 (by decide) (fun _ => ?_) (fun h => absurd h (by decide))
                      have zf : ¬ (hcB g i n ∧ hcB g2 j n) := by intro q; have a := (hcb_iff _ _ _).mp q.1; have b := (hcb_iff _ _ _).mp q.2; exact b.2.2.1 c32
                      refine v_aload_n C dX5_copy_144 1 rfl ?_
                      refine v_iconst C 3 dX5_copy_145 (by decide) ?_
                      refine v_callMi C l_X5_98 (m_X5_fails b 0 n_tr n_mi n_ju n_co n_cr n_at n_rm n_rj n_rc n_nw n_ov n_rl n_rd 3) (by decide) dX5_copy_146 [0] [1, 2, 3] (wr := [ia (b 2) cI 4 n_so, ia (b 3) cI 4 n_sl, ia (b 4) cI 240 n_ce]) (by decide) rfl rfl (by decide) (by decide) 0 rfl rfl rfl (rest := []) rfl (Nat.le_of_ble_eq_true rfl) (by decide) (fun r35 w33 h34 => ?_)
                      obtain ⟨rfl, rfl⟩ := h34
                      refine v_ws0 [ia (b 2) cI 4 n_so, ia (b 3) cI 4 n_sl, ia (b 4) cI 240 n_ce, oN b (3 : Int32) n_tr n_mi n_ju n_co n_cr n_at n_rm n_rj n_rc n_nw n_ov n_rl n_rd] rfl ?_
                      refine v_perm (ws' := [oN b (3 : Int32) n_tr n_mi n_ju n_co n_cr n_at n_rm n_rj n_rc n_nw n_ov n_rl n_rd, ia (b 2) cI 4 n_so, ia (b 3) cI 4 n_sl, ia (b 4) cI 240 n_ce]) [3, 0, 1, 2] (by decide) rfl ?_
                      exact v_reti C hA dX5_copy_149 rfl (⟨by first | (simp only [cyF, cyT, cyOk, vS, hcB, bI, c3, c6, c7, zh12, c13, zh14, c15, c16, c20, c24, c28, c32, zf, not_false_eq_true, not_true_eq_false, and_self, and_true, true_and, and_false, false_and, ↓reduceIte]; done) | (simp only [cyF, cyT, cyOk, vS, hcB, bI, c3, c6, c7, zh12, c13, zh14, c15, c16, c20, c24, c28, c32, zf, not_false_eq_true, not_true_eq_false, and_self, and_true, true_and, and_false, false_and, ↓reduceIte]; rfl) | (simp [cyF, cyT, cyOk, vS, hcB, bI, c3, c6, c7, zh12, c13, zh14, c15, c16, c20, c24, c28, c32, zf]; done) | rfl, by first | (simp only [cyF, cyT, cyOk, vS, hcB, bI, c3, c6, c7, zh12, c13, zh14, c15, c16, c20, c24, c28, c32, zf, not_false_eq_true, not_true_eq_false, and_self, and_true, true_and, and_false, false_and, ↓reduceIte]; done) | (simp only [cyF, cyT, cyOk, vS, hcB, bI, c3, c6, c7, zh12, c13, zh14, c15, c16, c20, c24, c28, c32, zf, not_false_eq_true, not_true_eq_false, and_self, and_true, true_and, and_false, false_and, ↓reduceIte]; rfl) | (simp [cyF, cyT, cyOk, vS, hcB, bI, c3, c6, c7, zh12, c13, zh14, c15, c16, c20, c24, c28, c32, zf]; done) | rfl⟩)
                    · refine v_iconst C 1 dX5_copy_105 (by decide) ?_
                      refine v_goto C 110 dX5_copy_106 (by decide) ?_
                      refine v_istore C [(6, .int 1), (0, .ref (b 0)), (1, .int (nI k)), (2, .int i), (3, .int (nI k2)), (4, .int j), (5, .int n)] dX5_copy_110 (by decide) rfl ?_
                      refine v_iload C dX5_copy_112 0 rfl ?_
                      refine v_if_eq C 144 dX5_copy_114 (by decide) (fun h => absurd h (by decide)) (fun _ => ?_)
                      refine v_iload C dX5_copy_117 6 rfl ?_
                      refine v_aload_n C dX5_copy_119 1 rfl ?_
                      refine v_get C f_X5_13 dX5_copy_120 0 rfl rfl ?_
                      refine v_iload_n C dX5_copy_123 2 rfl ?_
                      refine v_ialdN C dX5_copy_124 2 rfl k rfl (by omega) (by decide) ?_
                      refine v_eqi (nI g) (hsn) ?_
                      refine v_iload_n C dX5_copy_125 3 rfl ?_
                      refine v_isub C dX5_copy_126 ?_
                      refine v_icmp_gt C 144 dX5_copy_127 (by decide) (fun c36 => ?_) (fun c36 => ?_)
                      · have zf : ¬ (hcB g i n ∧ hcB g2 j n) := by intro q; have a := (hcb_iff _ _ _).mp q.1; have b := (hcb_iff _ _ _).mp q.2; exact a.2.2.2 c36
                        refine v_aload_n C dX5_copy_144 1 rfl ?_
                        refine v_iconst C 3 dX5_copy_145 (by decide) ?_
                        refine v_callMi C l_X5_98 (m_X5_fails b 0 n_tr n_mi n_ju n_co n_cr n_at n_rm n_rj n_rc n_nw n_ov n_rl n_rd 3) (by decide) dX5_copy_146 [0] [1, 2, 3] (wr := [ia (b 2) cI 4 n_so, ia (b 3) cI 4 n_sl, ia (b 4) cI 240 n_ce]) (by decide) rfl rfl (by decide) (by decide) 0 rfl rfl rfl (rest := []) rfl (Nat.le_of_ble_eq_true rfl) (by decide) (fun r39 w37 h38 => ?_)
                        obtain ⟨rfl, rfl⟩ := h38
                        refine v_ws0 [ia (b 2) cI 4 n_so, ia (b 3) cI 4 n_sl, ia (b 4) cI 240 n_ce, oN b (3 : Int32) n_tr n_mi n_ju n_co n_cr n_at n_rm n_rj n_rc n_nw n_ov n_rl n_rd] rfl ?_
                        refine v_perm (ws' := [oN b (3 : Int32) n_tr n_mi n_ju n_co n_cr n_at n_rm n_rj n_rc n_nw n_ov n_rl n_rd, ia (b 2) cI 4 n_so, ia (b 3) cI 4 n_sl, ia (b 4) cI 240 n_ce]) [3, 0, 1, 2] (by decide) rfl ?_
                        exact v_reti C hA dX5_copy_149 rfl (⟨by first | (simp only [cyF, cyT, cyOk, vS, hcB, bI, c3, c6, c7, zh12, c13, zh14, c15, c16, c20, c24, c28, c32, c36, zf, not_false_eq_true, not_true_eq_false, and_self, and_true, true_and, and_false, false_and, ↓reduceIte]; done) | (simp only [cyF, cyT, cyOk, vS, hcB, bI, c3, c6, c7, zh12, c13, zh14, c15, c16, c20, c24, c28, c32, c36, zf, not_false_eq_true, not_true_eq_false, and_self, and_true, true_and, and_false, false_and, ↓reduceIte]; rfl) | (simp [cyF, cyT, cyOk, vS, hcB, bI, c3, c6, c7, zh12, c13, zh14, c15, c16, c20, c24, c28, c32, c36, zf]; done) | rfl, by first | (simp only [cyF, cyT, cyOk, vS, hcB, bI, c3, c6, c7, zh12, c13, zh14, c15, c16, c20, c24, c28, c32, c36, zf, not_false_eq_true, not_true_eq_false, and_self, and_true, true_and, and_false, false_and, ↓reduceIte]; done) | (simp only [cyF, cyT, cyOk, vS, hcB, bI, c3, c6, c7, zh12, c13, zh14, c15, c16, c20, c24, c28, c32, c36, zf, not_false_eq_true, not_true_eq_false, and_self, and_true, true_and, and_false, false_and, ↓reduceIte]; rfl) | (simp [cyF, cyT, cyOk, vS, hcB, bI, c3, c6, c7, zh12, c13, zh14, c15, c16, c20, c24, c28, c32, c36, zf]; done) | rfl⟩)
                      · refine v_iload C dX5_copy_130 6 rfl ?_
                        refine v_aload_n C dX5_copy_132 1 rfl ?_
                        refine v_get C f_X5_13 dX5_copy_133 0 rfl rfl ?_
                        refine v_iload_n C dX5_copy_136 4 rfl ?_
                        refine v_ialdN C dX5_copy_137 2 rfl k2 rfl (by omega) (by decide) ?_
                        refine v_eqi (nI g2) (hsn2) ?_
                        refine v_iload C dX5_copy_138 5 rfl ?_
                        refine v_isub C dX5_copy_140 ?_
                        refine v_icmp_le C 150 dX5_copy_141 (by decide) (fun c40 => ?_) (fun c40 => ?_)
                        · have z1 : hcB g i n := (hcb_iff _ _ _).mpr ⟨c16, c24, c28, c36⟩
                          have z2 : hcB g2 j n := (hcb_iff _ _ _).mpr ⟨c20, c24, c32, Int32.not_lt.mpr c40⟩
                          obtain ⟨iN, nN, rfl, rfl, hi1, ziN, znN⟩ := hc_nat hg z1
                          obtain ⟨jN, mN, rfl, hmN, hj1, zjN, zmN⟩ := hc_nat hg2 z2
                          have hmn : nN = mN := by rw [← znN, ← zmN]
                          refine v_iload_n C dX5_copy_150 3 rfl ?_
                          refine v_iload C dX5_copy_151 5 rfl ?_
                          refine v_icmp_ge C 160 dX5_copy_153 (by decide) (fun c41 => ?_) (fun c41 => ?_)
                          · have nc41 : jN ≤ iN := nI_leD c41 (by omega)
                            refine v_iconst C 0 dX5_copy_160 (by decide) ?_
                            refine v_istore C [(7, .int 0), (6, .int 1), (0, .ref (b 0)), (1, .int (nI k)), (2, .int (nI iN)), (3, .int (nI k2)), (4, .int (nI jN)), (5, .int (nI nN))] dX5_copy_161 (by decide) rfl ?_
                            refine v_iconst C 0 dX5_copy_163 (by decide) ?_
                            refine v_istore C [(8, .int 0), (7, .int 0), (6, .int 1), (0, .ref (b 0)), (1, .int (nI k)), (2, .int (nI iN)), (3, .int (nI k2)), (4, .int (nI jN)), (5, .int (nI nN))] dX5_copy_164 (by decide) rfl ?_
                            refine v_ws0 [oN b 0 n_tr n_mi n_ju n_co n_cr n_at n_rm n_rj n_rc n_nw n_ov n_rl n_rd, ia (b 2) cI 4 n_so, ia (b 3) cI 4 n_sl, ia (b 4) cI 240 (va_cpy n_ce n_ce (60 * k + iN) (60 * k2 + jN) 0)] (by rw [cy_0]) ?_
                            have hkk : k = k2 ∨ k < k2 ∨ k2 < k := by omega
                            have lp : ∀ (n_43 : Nat) (p : Nat), nN - p < n_43 → (p ≤ nN) → V zp l ze (rmOf 2 42) zs zm [.ref (b 0), .int (nI k), .int (nI iN), .int (nI k2), .int (nI jN), .int (nI nN)].toArray zb zt zc D (IM zA zs) (QMi zb [.ref (b 0), .int (nI k), .int (nI iN), .int (nI k2), .int (nI jN), .int (nI nN)].toArray zs D cI cB cS [oN b n_fa n_tr n_mi n_ju n_co n_cr n_at n_rm n_rj n_rc n_nw n_ov n_rl n_rd, ia (b 2) cI 4 n_so, ia (b 3) cI 4 n_sl, ia (b 4) cI 240 n_ce] zz (fun r w => r = cyF (nI k) (nI k2) hs hs2 sl sl2 g g2 (nI iN) (nI jN) (nI nN) ∧ w = [oN b (cyT (nI k) (nI k2) hs hs2 sl sl2 g g2 (nI iN) (nI jN) (nI nN)) n_tr n_mi n_ju n_co n_cr n_at n_rm n_rj n_rc n_nw n_ov n_rl n_rd, ia (b 2) cI 4 n_so, ia (b 3) cI 4 n_sl, ia (b 4) cI 240 (if cyOk (nI k) (nI k2) hs hs2 sl sl2 g g2 (nI iN) (nI jN) (nI nN) then va_cpy n_ce n_ce (60 * k + zN (nI iN)) (60 * k2 + zN (nI jN)) (zN (nI nN)) else n_ce)])) 0 0 10 [oN b 0 n_tr n_mi n_ju n_co n_cr n_at n_rm n_rj n_rc n_nw n_ov n_rl n_rd, ia (b 2) cI 4 n_so, ia (b 3) cI 4 n_sl, ia (b 4) cI 240 (va_cpy n_ce n_ce (60 * k + iN) (60 * k2 + jN) p)] [(8, .int (nI p)), (7, .int 0), (0, .ref (b 0)), (1, .int (nI k)), (2, .int (nI iN)), (3, .int (nI k2)), (4, .int (nI jN)), (5, .int (nI nN))] 166 [] := by
                              intro n_43
                              induction n_43 with
                              | zero => intro p b42; exact absurd b42 (by omega)
                              | succ n_43 ihn_43 =>
                                intro p b42 hp
                                refine v_iload C dX5_copy_166 0 rfl ?_
                                refine v_iload C dX5_copy_168 7 rfl ?_
                                refine v_icmp_ge C 227 dX5_copy_170 (by decide) (fun c44 => ?_) (fun c44 => ?_)
                                · have nc44 : nN ≤ p := nI_leD c44 (by omega)
                                  have hpe : p = nN := by omega
                                  refine v_ws0 [oN b 0 n_tr n_mi n_ju n_co n_cr n_at n_rm n_rj n_rc n_nw n_ov n_rl n_rd, ia (b 2) cI 4 n_so, ia (b 3) cI 4 n_sl, ia (b 4) cI 240 (va_cpy n_ce n_ce (60 * k + iN) (60 * k2 + jN) nN)] (by rw [hpe]) ?_
                                  refine v_iload C dX5_copy_227 7 rfl ?_
                                  exact v_reti C hA dX5_copy_229 rfl (⟨by first | (simp only [cyF, cyT, cyOk, vS, hcB, bI, ziN, znN, zjN, c3, c6, c7, zh12, c13, zh14, c15, c16, c20, c24, c28, c32, c36, c40, z1, z2, c41, nc41, Nat.not_lt.mpr nc41, c44, nc44, Nat.not_lt.mpr nc44, not_false_eq_true, not_true_eq_false, and_self, and_true, true_and, and_false, false_and, ↓reduceIte]; done) | (simp only [cyF, cyT, cyOk, vS, hcB, bI, ziN, znN, zjN, c3, c6, c7, zh12, c13, zh14, c15, c16, c20, c24, c28, c32, c36, c40, z1, z2, c41, nc41, Nat.not_lt.mpr nc41, c44, nc44, Nat.not_lt.mpr nc44, not_false_eq_true, not_true_eq_false, and_self, and_true, true_and, and_false, false_and, ↓reduceIte]; rfl) | (simp [cyF, cyT, cyOk, vS, hcB, bI, ziN, znN, zjN, c3, c6, c7, zh12, c13, zh14, c15, c16, c20, c24, c28, c32, c36, c40, z1, z2, c41, nc41, Nat.not_lt.mpr nc41, c44, nc44, Nat.not_lt.mpr nc44]; done) | rfl, by first | (simp only [cyF, cyT, cyOk, vS, hcB, bI, ziN, znN, zjN, c3, c6, c7, zh12, c13, zh14, c15, c16, c20, c24, c28, c32, c36, c40, z1, z2, c41, nc41, Nat.not_lt.mpr nc41, c44, nc44, Nat.not_lt.mpr nc44, not_false_eq_true, not_true_eq_false, and_self, and_true, true_and, and_false, false_and, ↓reduceIte]; done) | (simp only [cyF, cyT, cyOk, vS, hcB, bI, ziN, znN, zjN, c3, c6, c7, zh12, c13, zh14, c15, c16, c20, c24, c28, c32, c36, c40, z1, z2, c41, nc41, Nat.not_lt.mpr nc41, c44, nc44, Nat.not_lt.mpr nc44, not_false_eq_true, not_true_eq_false, and_self, and_true, true_and, and_false, false_and, ↓reduceIte]; rfl) | (simp [cyF, cyT, cyOk, vS, hcB, bI, ziN, znN, zjN, c3, c6, c7, zh12, c13, zh14, c15, c16, c20, c24, c28, c32, c36, c40, z1, z2, c41, nc41, Nat.not_lt.mpr nc41, c44, nc44, Nat.not_lt.mpr nc44]; done) | rfl⟩)
                                · have nc44 : p < nN := nI_ltD c44 (by omega)
                                  refine v_iload C dX5_copy_173 1 rfl ?_
                                  refine v_if_eq C 188 dX5_copy_175 (by decide) (fun _ => ?_) (fun h => absurd h (by decide))
                                  refine v_iload C dX5_copy_188 0 rfl ?_
                                  refine v_istore C [(9, .int (nI p)), (8, .int (nI p)), (7, .int 0), (0, .ref (b 0)), (1, .int (nI k)), (2, .int (nI iN)), (3, .int (nI k2)), (4, .int (nI jN)), (5, .int (nI nN))] dX5_copy_190 (by decide) rfl ?_
                                  refine v_aload_n C dX5_copy_192 3 rfl ?_
                                  refine v_get C f_X5_16 dX5_copy_193 0 rfl rfl ?_
                                  refine v_bipush C 60 dX5_copy_196 (by decide) ?_
                                  refine v_iload_n C dX5_copy_198 6 rfl ?_
                                  refine v_imul C dX5_copy_199 ?_
                                  refine v_eqi (nI (60 * k2)) (pk_mul 60 k2) ?_
                                  refine v_iload C dX5_copy_200 7 rfl ?_
                                  refine v_iadd C dX5_copy_202 ?_
                                  refine v_eqi (nI (60 * k2 + jN)) (nI_add _ _) ?_
                                  refine v_iload C dX5_copy_203 0 rfl ?_
                                  refine v_iadd C dX5_copy_205 ?_
                                  refine v_eqi (nI (60 * k2 + jN + p)) (nI_add _ _) ?_
                                  refine v_aload_n C dX5_copy_206 3 rfl ?_
                                  refine v_get C f_X5_16 dX5_copy_207 0 rfl rfl ?_
                                  refine v_bipush C 60 dX5_copy_210 (by decide) ?_
                                  refine v_iload_n C dX5_copy_212 4 rfl ?_
                                  refine v_imul C dX5_copy_213 ?_
                                  refine v_eqi (nI (60 * k)) (pk_mul 60 k) ?_
                                  refine v_iload_n C dX5_copy_214 5 rfl ?_
                                  refine v_iadd C dX5_copy_215 ?_
                                  refine v_eqi (nI (60 * k + iN)) (nI_add _ _) ?_
                                  refine v_iload C dX5_copy_216 0 rfl ?_
                                  refine v_iadd C dX5_copy_218 ?_
                                  refine v_eqi (nI (60 * k + iN + p)) (nI_add _ _) ?_
                                  refine v_ialdN C dX5_copy_219 3 rfl (60 * k + iN + p) rfl (by omega) (by decide) ?_
                                  refine v_eqi (n_ce (60 * k + iN + p)) (pk_cpy_out (by omega)) ?_
                                  refine v_iastN C [oN b 0 n_tr n_mi n_ju n_co n_cr n_at n_rm n_rj n_rc n_nw n_ov n_rl n_rd, ia (b 2) cI 4 n_so, ia (b 3) cI 4 n_sl, ia (b 4) cI 240 (upd (va_cpy n_ce n_ce (60 * k + iN) (60 * k2 + jN) p) (60 * k2 + jN + p) (n_ce (60 * k + iN + p)))] dX5_copy_220 3 rfl (60 * k2 + jN + p) rfl (by omega) (by decide) rfl ?_
                                  refine v_ws0 [oN b 0 n_tr n_mi n_ju n_co n_cr n_at n_rm n_rj n_rc n_nw n_ov n_rl n_rd, ia (b 2) cI 4 n_so, ia (b 3) cI 4 n_sl, ia (b 4) cI 240 (va_cpy n_ce n_ce (60 * k + iN) (60 * k2 + jN) (p + 1))] (by rw [cy_s]) ?_
                                  refine v_iinc C (nI (p + 1)) [(8, .int (nI (p + 1))), (9, .int (nI p)), (7, .int 0), (0, .ref (b 0)), (1, .int (nI k)), (2, .int (nI iN)), (3, .int (nI k2)), (4, .int (nI jN)), (5, .int (nI nN))] 1 dX5_copy_221 rfl (nI_inc _) (by decide) rfl ?_
                                  refine v_goto C 166 dX5_copy_224 (by decide) ?_
                                  refine v_loc [0, 2, 3, 4, 5, 6, 7, 8] (lv' := [(8, .int (nI (p + 1))), (7, .int 0), (0, .ref (b 0)), (1, .int (nI k)), (2, .int (nI iN)), (3, .int (nI k2)), (4, .int (nI jN)), (5, .int (nI nN))]) rfl ?_
                                  exact ihn_43 (p + 1) (by omega) (by omega)
                            refine v_loc [0, 1, 3, 4, 5, 6, 7, 8] (lv' := [(8, .int 0), (7, .int 0), (0, .ref (b 0)), (1, .int (nI k)), (2, .int (nI iN)), (3, .int (nI k2)), (4, .int (nI jN)), (5, .int (nI nN))]) rfl ?_
                            exact lp (nN - 0 + 1) 0 (by omega) (by omega)
                          · have nc41 : iN < jN := nI_ltD c41 (by omega)
                            refine v_iconst C 1 dX5_copy_156 (by decide) ?_
                            refine v_goto C 161 dX5_copy_157 (by decide) ?_
                            refine v_istore C [(7, .int 1), (6, .int 1), (0, .ref (b 0)), (1, .int (nI k)), (2, .int (nI iN)), (3, .int (nI k2)), (4, .int (nI jN)), (5, .int (nI nN))] dX5_copy_161 (by decide) rfl ?_
                            refine v_iconst C 0 dX5_copy_163 (by decide) ?_
                            refine v_istore C [(8, .int 0), (7, .int 1), (6, .int 1), (0, .ref (b 0)), (1, .int (nI k)), (2, .int (nI iN)), (3, .int (nI k2)), (4, .int (nI jN)), (5, .int (nI nN))] dX5_copy_164 (by decide) rfl ?_
                            refine v_ws0 [oN b 0 n_tr n_mi n_ju n_co n_cr n_at n_rm n_rj n_rc n_nw n_ov n_rl n_rd, ia (b 2) cI 4 n_so, ia (b 3) cI 4 n_sl, ia (b 4) cI 240 (va_cpy n_ce n_ce (60 * k + iN + nN - 0) (60 * k2 + jN + nN - 0) 0)] (by rw [cy_0]) ?_
                            have hkk : k = k2 ∨ k < k2 ∨ k2 < k := by omega
                            have lp : ∀ (n_46 : Nat) (p : Nat), nN - p < n_46 → (p ≤ nN) → V zp l ze (rmOf 2 42) zs zm [.ref (b 0), .int (nI k), .int (nI iN), .int (nI k2), .int (nI jN), .int (nI nN)].toArray zb zt zc D (IM zA zs) (QMi zb [.ref (b 0), .int (nI k), .int (nI iN), .int (nI k2), .int (nI jN), .int (nI nN)].toArray zs D cI cB cS [oN b n_fa n_tr n_mi n_ju n_co n_cr n_at n_rm n_rj n_rc n_nw n_ov n_rl n_rd, ia (b 2) cI 4 n_so, ia (b 3) cI 4 n_sl, ia (b 4) cI 240 n_ce] zz (fun r w => r = cyF (nI k) (nI k2) hs hs2 sl sl2 g g2 (nI iN) (nI jN) (nI nN) ∧ w = [oN b (cyT (nI k) (nI k2) hs hs2 sl sl2 g g2 (nI iN) (nI jN) (nI nN)) n_tr n_mi n_ju n_co n_cr n_at n_rm n_rj n_rc n_nw n_ov n_rl n_rd, ia (b 2) cI 4 n_so, ia (b 3) cI 4 n_sl, ia (b 4) cI 240 (if cyOk (nI k) (nI k2) hs hs2 sl sl2 g g2 (nI iN) (nI jN) (nI nN) then va_cpy n_ce n_ce (60 * k + zN (nI iN)) (60 * k2 + zN (nI jN)) (zN (nI nN)) else n_ce)])) 0 0 10 [oN b 0 n_tr n_mi n_ju n_co n_cr n_at n_rm n_rj n_rc n_nw n_ov n_rl n_rd, ia (b 2) cI 4 n_so, ia (b 3) cI 4 n_sl, ia (b 4) cI 240 (va_cpy n_ce n_ce (60 * k + iN + nN - p) (60 * k2 + jN + nN - p) p)] [(8, .int (nI p)), (7, .int 1), (0, .ref (b 0)), (1, .int (nI k)), (2, .int (nI iN)), (3, .int (nI k2)), (4, .int (nI jN)), (5, .int (nI nN))] 166 [] := by
                              intro n_46
                              induction n_46 with
                              | zero => intro p b45; exact absurd b45 (by omega)
                              | succ n_46 ihn_46 =>
                                intro p b45 hp
                                refine v_iload C dX5_copy_166 0 rfl ?_
                                refine v_iload C dX5_copy_168 7 rfl ?_
                                refine v_icmp_ge C 227 dX5_copy_170 (by decide) (fun c47 => ?_) (fun c47 => ?_)
                                · have nc47 : nN ≤ p := nI_leD c47 (by omega)
                                  have hpe : p = nN := by omega
                                  refine v_ws0 [oN b 0 n_tr n_mi n_ju n_co n_cr n_at n_rm n_rj n_rc n_nw n_ov n_rl n_rd, ia (b 2) cI 4 n_so, ia (b 3) cI 4 n_sl, ia (b 4) cI 240 (va_cpy n_ce n_ce (60 * k + iN) (60 * k2 + jN) nN)] (by rw [hpe, Nat.add_sub_cancel, Nat.add_sub_cancel]) ?_
                                  refine v_iload C dX5_copy_227 7 rfl ?_
                                  exact v_reti C hA dX5_copy_229 rfl (⟨by first | (simp only [cyF, cyT, cyOk, vS, hcB, bI, ziN, znN, zjN, c3, c6, c7, zh12, c13, zh14, c15, c16, c20, c24, c28, c32, c36, c40, z1, z2, c41, nc41, Nat.not_le.mpr nc41, c47, nc47, Nat.not_lt.mpr nc47, not_false_eq_true, not_true_eq_false, and_self, and_true, true_and, and_false, false_and, ↓reduceIte]; done) | (simp only [cyF, cyT, cyOk, vS, hcB, bI, ziN, znN, zjN, c3, c6, c7, zh12, c13, zh14, c15, c16, c20, c24, c28, c32, c36, c40, z1, z2, c41, nc41, Nat.not_le.mpr nc41, c47, nc47, Nat.not_lt.mpr nc47, not_false_eq_true, not_true_eq_false, and_self, and_true, true_and, and_false, false_and, ↓reduceIte]; rfl) | (simp [cyF, cyT, cyOk, vS, hcB, bI, ziN, znN, zjN, c3, c6, c7, zh12, c13, zh14, c15, c16, c20, c24, c28, c32, c36, c40, z1, z2, c41, nc41, Nat.not_le.mpr nc41, c47, nc47, Nat.not_lt.mpr nc47]; done) | rfl, by first | (simp only [cyF, cyT, cyOk, vS, hcB, bI, ziN, znN, zjN, c3, c6, c7, zh12, c13, zh14, c15, c16, c20, c24, c28, c32, c36, c40, z1, z2, c41, nc41, Nat.not_le.mpr nc41, c47, nc47, Nat.not_lt.mpr nc47, not_false_eq_true, not_true_eq_false, and_self, and_true, true_and, and_false, false_and, ↓reduceIte]; done) | (simp only [cyF, cyT, cyOk, vS, hcB, bI, ziN, znN, zjN, c3, c6, c7, zh12, c13, zh14, c15, c16, c20, c24, c28, c32, c36, c40, z1, z2, c41, nc41, Nat.not_le.mpr nc41, c47, nc47, Nat.not_lt.mpr nc47, not_false_eq_true, not_true_eq_false, and_self, and_true, true_and, and_false, false_and, ↓reduceIte]; rfl) | (simp [cyF, cyT, cyOk, vS, hcB, bI, ziN, znN, zjN, c3, c6, c7, zh12, c13, zh14, c15, c16, c20, c24, c28, c32, c36, c40, z1, z2, c41, nc41, Nat.not_le.mpr nc41, c47, nc47, Nat.not_lt.mpr nc47]; done) | rfl⟩)
                                · have nc47 : p < nN := nI_ltD c47 (by omega)
                                  refine v_iload C dX5_copy_173 1 rfl ?_
                                  refine v_if_eq C 188 dX5_copy_175 (by decide) (fun h => absurd h (by decide)) (fun _ => ?_)
                                  refine v_iload C dX5_copy_178 7 rfl ?_
                                  refine v_iconst C 1 dX5_copy_180 (by decide) ?_
                                  refine v_isub C dX5_copy_181 ?_
                                  refine v_eqi (nI (nN - 1)) (pk_sub (b := 1) (by omega)) ?_
                                  refine v_iload C dX5_copy_182 0 rfl ?_
                                  refine v_isub C dX5_copy_184 ?_
                                  refine v_eqi (nI (nN - 1 - p)) (pk_sub (by omega)) ?_
                                  refine v_goto C 190 dX5_copy_185 (by decide) ?_
                                  refine v_istore C [(9, .int (nI (nN - 1 - p))), (8, .int (nI p)), (7, .int 1), (0, .ref (b 0)), (1, .int (nI k)), (2, .int (nI iN)), (3, .int (nI k2)), (4, .int (nI jN)), (5, .int (nI nN))] dX5_copy_190 (by decide) rfl ?_
                                  refine v_aload_n C dX5_copy_192 3 rfl ?_
                                  refine v_get C f_X5_16 dX5_copy_193 0 rfl rfl ?_
                                  refine v_bipush C 60 dX5_copy_196 (by decide) ?_
                                  refine v_iload_n C dX5_copy_198 6 rfl ?_
                                  refine v_imul C dX5_copy_199 ?_
                                  refine v_eqi (nI (60 * k2)) (pk_mul 60 k2) ?_
                                  refine v_iload C dX5_copy_200 7 rfl ?_
                                  refine v_iadd C dX5_copy_202 ?_
                                  refine v_eqi (nI (60 * k2 + jN)) (nI_add _ _) ?_
                                  refine v_iload C dX5_copy_203 0 rfl ?_
                                  refine v_iadd C dX5_copy_205 ?_
                                  refine v_eqi (nI (60 * k2 + jN + (nN - 1 - p))) (nI_add _ _) ?_
                                  refine v_aload_n C dX5_copy_206 3 rfl ?_
                                  refine v_get C f_X5_16 dX5_copy_207 0 rfl rfl ?_
                                  refine v_bipush C 60 dX5_copy_210 (by decide) ?_
                                  refine v_iload_n C dX5_copy_212 4 rfl ?_
                                  refine v_imul C dX5_copy_213 ?_
                                  refine v_eqi (nI (60 * k)) (pk_mul 60 k) ?_
                                  refine v_iload_n C dX5_copy_214 5 rfl ?_
                                  refine v_iadd C dX5_copy_215 ?_
                                  refine v_eqi (nI (60 * k + iN)) (nI_add _ _) ?_
                                  refine v_iload C dX5_copy_216 0 rfl ?_
                                  refine v_iadd C dX5_copy_218 ?_
                                  refine v_eqi (nI (60 * k + iN + (nN - 1 - p))) (nI_add _ _) ?_
                                  refine v_ialdN C dX5_copy_219 3 rfl (60 * k + iN + (nN - 1 - p)) rfl (by omega) (by decide) ?_
                                  refine v_eqi (n_ce (60 * k + iN + (nN - 1 - p))) (pk_cpy_out (by omega)) ?_
                                  refine v_iastN C [oN b 0 n_tr n_mi n_ju n_co n_cr n_at n_rm n_rj n_rc n_nw n_ov n_rl n_rd, ia (b 2) cI 4 n_so, ia (b 3) cI 4 n_sl, ia (b 4) cI 240 (upd (va_cpy n_ce n_ce (60 * k + iN + nN - p) (60 * k2 + jN + nN - p) p) (60 * k2 + jN + (nN - 1 - p)) (n_ce (60 * k + iN + (nN - 1 - p))))] dX5_copy_220 3 rfl (60 * k2 + jN + (nN - 1 - p)) rfl (by omega) (by decide) rfl ?_
                                  refine v_ws0 [oN b 0 n_tr n_mi n_ju n_co n_cr n_at n_rm n_rj n_rc n_nw n_ov n_rl n_rd, ia (b 2) cI 4 n_so, ia (b 3) cI 4 n_sl, ia (b 4) cI 240 (va_cpy n_ce n_ce (60 * k + iN + nN - (p + 1)) (60 * k2 + jN + nN - (p + 1)) (p + 1))] (by rw [cy_d (by omega)]) ?_
                                  refine v_iinc C (nI (p + 1)) [(8, .int (nI (p + 1))), (9, .int (nI (nN - 1 - p))), (7, .int 1), (0, .ref (b 0)), (1, .int (nI k)), (2, .int (nI iN)), (3, .int (nI k2)), (4, .int (nI jN)), (5, .int (nI nN))] 1 dX5_copy_221 rfl (nI_inc _) (by decide) rfl ?_
                                  refine v_goto C 166 dX5_copy_224 (by decide) ?_
                                  refine v_loc [0, 2, 3, 4, 5, 6, 7, 8] (lv' := [(8, .int (nI (p + 1))), (7, .int 1), (0, .ref (b 0)), (1, .int (nI k)), (2, .int (nI iN)), (3, .int (nI k2)), (4, .int (nI jN)), (5, .int (nI nN))]) rfl ?_
                                  exact ihn_46 (p + 1) (by omega) (by omega)
                            refine v_loc [0, 1, 3, 4, 5, 6, 7, 8] (lv' := [(8, .int 0), (7, .int 1), (0, .ref (b 0)), (1, .int (nI k)), (2, .int (nI iN)), (3, .int (nI k2)), (4, .int (nI jN)), (5, .int (nI nN))]) rfl ?_
                            exact lp (nN - 0 + 1) 0 (by omega) (by omega)
                        · have zf : ¬ (hcB g i n ∧ hcB g2 j n) := by intro q; have a := (hcb_iff _ _ _).mp q.1; have b := (hcb_iff _ _ _).mp q.2; exact c40 (Int32.not_lt.mp b.2.2.2)
                          refine v_aload_n C dX5_copy_144 1 rfl ?_
                          refine v_iconst C 3 dX5_copy_145 (by decide) ?_
                          refine v_callMi C l_X5_98 (m_X5_fails b 0 n_tr n_mi n_ju n_co n_cr n_at n_rm n_rj n_rc n_nw n_ov n_rl n_rd 3) (by decide) dX5_copy_146 [0] [1, 2, 3] (wr := [ia (b 2) cI 4 n_so, ia (b 3) cI 4 n_sl, ia (b 4) cI 240 n_ce]) (by decide) rfl rfl (by decide) (by decide) 0 rfl rfl rfl (rest := []) rfl (Nat.le_of_ble_eq_true rfl) (by decide) (fun r50 w48 h49 => ?_)
                          obtain ⟨rfl, rfl⟩ := h49
                          refine v_ws0 [ia (b 2) cI 4 n_so, ia (b 3) cI 4 n_sl, ia (b 4) cI 240 n_ce, oN b (3 : Int32) n_tr n_mi n_ju n_co n_cr n_at n_rm n_rj n_rc n_nw n_ov n_rl n_rd] rfl ?_
                          refine v_perm (ws' := [oN b (3 : Int32) n_tr n_mi n_ju n_co n_cr n_at n_rm n_rj n_rc n_nw n_ov n_rl n_rd, ia (b 2) cI 4 n_so, ia (b 3) cI 4 n_sl, ia (b 4) cI 240 n_ce]) [3, 0, 1, 2] (by decide) rfl ?_
                          exact v_reti C hA dX5_copy_149 rfl (⟨by first | (simp only [cyF, cyT, cyOk, vS, hcB, bI, c3, c6, c7, zh12, c13, zh14, c15, c16, c20, c24, c28, c32, c36, c40, zf, not_false_eq_true, not_true_eq_false, and_self, and_true, true_and, and_false, false_and, ↓reduceIte]; done) | (simp only [cyF, cyT, cyOk, vS, hcB, bI, c3, c6, c7, zh12, c13, zh14, c15, c16, c20, c24, c28, c32, c36, c40, zf, not_false_eq_true, not_true_eq_false, and_self, and_true, true_and, and_false, false_and, ↓reduceIte]; rfl) | (simp [cyF, cyT, cyOk, vS, hcB, bI, c3, c6, c7, zh12, c13, zh14, c15, c16, c20, c24, c28, c32, c36, c40, zf]; done) | rfl, by first | (simp only [cyF, cyT, cyOk, vS, hcB, bI, c3, c6, c7, zh12, c13, zh14, c15, c16, c20, c24, c28, c32, c36, c40, zf, not_false_eq_true, not_true_eq_false, and_self, and_true, true_and, and_false, false_and, ↓reduceIte]; done) | (simp only [cyF, cyT, cyOk, vS, hcB, bI, c3, c6, c7, zh12, c13, zh14, c15, c16, c20, c24, c28, c32, c36, c40, zf, not_false_eq_true, not_true_eq_false, and_self, and_true, true_and, and_false, false_and, ↓reduceIte]; rfl) | (simp [cyF, cyT, cyOk, vS, hcB, bI, c3, c6, c7, zh12, c13, zh14, c15, c16, c20, c24, c28, c32, c36, c40, zf]; done) | rfl⟩)
          · refine v_aload_n C dX5_copy_64 0 rfl ?_
            refine v_iconst C 2 dX5_copy_65 (by decide) ?_
            refine v_callMi C l_X5_98 (m_X5_fails b 0 n_tr n_mi n_ju n_co n_cr n_at n_rm n_rj n_rc n_nw n_ov n_rl n_rd 2) (by decide) dX5_copy_66 [0] [1, 2, 3] (wr := [ia (b 2) cI 4 n_so, ia (b 3) cI 4 n_sl, ia (b 4) cI 240 n_ce]) (by decide) rfl rfl (by decide) (by decide) 0 rfl rfl rfl (rest := []) rfl (Nat.le_of_ble_eq_true rfl) (by decide) (fun r53 w51 h52 => ?_)
            obtain ⟨rfl, rfl⟩ := h52
            refine v_ws0 [ia (b 2) cI 4 n_so, ia (b 3) cI 4 n_sl, ia (b 4) cI 240 n_ce, oN b (2 : Int32) n_tr n_mi n_ju n_co n_cr n_at n_rm n_rj n_rc n_nw n_ov n_rl n_rd] rfl ?_
            refine v_perm (ws' := [oN b (2 : Int32) n_tr n_mi n_ju n_co n_cr n_at n_rm n_rj n_rc n_nw n_ov n_rl n_rd, ia (b 2) cI 4 n_so, ia (b 3) cI 4 n_sl, ia (b 4) cI 240 n_ce]) [3, 0, 1, 2] (by decide) rfl ?_
            exact v_reti C hA dX5_copy_69 rfl (⟨by first | (simp only [cyF, cyT, cyOk, vS, hcB, bI, c3, c6, c7, zh12, c13, zh14, c15, not_false_eq_true, not_true_eq_false, and_self, and_true, true_and, and_false, false_and, ↓reduceIte]; done) | (simp only [cyF, cyT, cyOk, vS, hcB, bI, c3, c6, c7, zh12, c13, zh14, c15, not_false_eq_true, not_true_eq_false, and_self, and_true, true_and, and_false, false_and, ↓reduceIte]; rfl) | (simp [cyF, cyT, cyOk, vS, hcB, bI, c3, c6, c7, zh12, c13, zh14, c15]; done) | rfl, by first | (simp only [cyF, cyT, cyOk, vS, hcB, bI, c3, c6, c7, zh12, c13, zh14, c15, not_false_eq_true, not_true_eq_false, and_self, and_true, true_and, and_false, false_and, ↓reduceIte]; done) | (simp only [cyF, cyT, cyOk, vS, hcB, bI, c3, c6, c7, zh12, c13, zh14, c15, not_false_eq_true, not_true_eq_false, and_self, and_true, true_and, and_false, false_and, ↓reduceIte]; rfl) | (simp [cyF, cyT, cyOk, vS, hcB, bI, c3, c6, c7, zh12, c13, zh14, c15]; done) | rfl⟩)
        · have zh54 : hs2 = 0 := (so_9 hlv2).mp c13
          refine v_aload_n C dX5_copy_43 0 rfl ?_
          refine v_iconst C 1 dX5_copy_44 (by decide) ?_
          refine v_callMi C l_X5_98 (m_X5_fails b 0 n_tr n_mi n_ju n_co n_cr n_at n_rm n_rj n_rc n_nw n_ov n_rl n_rd 1) (by decide) dX5_copy_45 [0] [1, 2, 3] (wr := [ia (b 2) cI 4 n_so, ia (b 3) cI 4 n_sl, ia (b 4) cI 240 n_ce]) (by decide) rfl rfl (by decide) (by decide) 0 rfl rfl rfl (rest := []) rfl (Nat.le_of_ble_eq_true rfl) (by decide) (fun r57 w55 h56 => ?_)
          obtain ⟨rfl, rfl⟩ := h56
          refine v_ws0 [ia (b 2) cI 4 n_so, ia (b 3) cI 4 n_sl, ia (b 4) cI 240 n_ce, oN b (1 : Int32) n_tr n_mi n_ju n_co n_cr n_at n_rm n_rj n_rc n_nw n_ov n_rl n_rd] rfl ?_
          refine v_perm (ws' := [oN b (1 : Int32) n_tr n_mi n_ju n_co n_cr n_at n_rm n_rj n_rc n_nw n_ov n_rl n_rd, ia (b 2) cI 4 n_so, ia (b 3) cI 4 n_sl, ia (b 4) cI 240 n_ce]) [3, 0, 1, 2] (by decide) rfl ?_
          exact v_reti C hA dX5_copy_48 rfl (⟨by first | (simp only [cyF, cyT, cyOk, vS, hcB, bI, c3, c6, c7, zh12, c13, zh54, not_false_eq_true, not_true_eq_false, and_self, and_true, true_and, and_false, false_and, ↓reduceIte]; done) | (simp only [cyF, cyT, cyOk, vS, hcB, bI, c3, c6, c7, zh12, c13, zh54, not_false_eq_true, not_true_eq_false, and_self, and_true, true_and, and_false, false_and, ↓reduceIte]; rfl) | (simp [cyF, cyT, cyOk, vS, hcB, bI, c3, c6, c7, zh12, c13, zh54]; done) | rfl, by first | (simp only [cyF, cyT, cyOk, vS, hcB, bI, c3, c6, c7, zh12, c13, zh54, not_false_eq_true, not_true_eq_false, and_self, and_true, true_and, and_false, false_and, ↓reduceIte]; done) | (simp only [cyF, cyT, cyOk, vS, hcB, bI, c3, c6, c7, zh12, c13, zh54, not_false_eq_true, not_true_eq_false, and_self, and_true, true_and, and_false, false_and, ↓reduceIte]; rfl) | (simp [cyF, cyT, cyOk, vS, hcB, bI, c3, c6, c7, zh12, c13, zh54]; done) | rfl⟩)
    · refine v_eqi 0 (bI_f c6) ?_
      refine v_if_ne C 21 dX5_copy_16 (by decide) (fun h => absurd h (by decide)) (fun _ => ?_)
      refine v_iconst C (-1) dX5_copy_19 (by decide) ?_
      exact v_reti C hA dX5_copy_20 rfl (⟨by first | (simp only [cyF, cyT, cyOk, vS, hcB, bI, c3, c6, not_false_eq_true, not_true_eq_false, and_self, and_true, true_and, and_false, false_and, ↓reduceIte]; done) | (simp only [cyF, cyT, cyOk, vS, hcB, bI, c3, c6, not_false_eq_true, not_true_eq_false, and_self, and_true, true_and, and_false, false_and, ↓reduceIte]; rfl) | (simp [cyF, cyT, cyOk, vS, hcB, bI, c3, c6]; done) | rfl, by first | (simp only [cyF, cyT, cyOk, vS, hcB, bI, c3, c6, not_false_eq_true, not_true_eq_false, and_self, and_true, true_and, and_false, false_and, ↓reduceIte]; done) | (simp only [cyF, cyT, cyOk, vS, hcB, bI, c3, c6, not_false_eq_true, not_true_eq_false, and_self, and_true, true_and, and_false, false_and, ↓reduceIte]; rfl) | (simp [cyF, cyT, cyOk, vS, hcB, bI, c3, c6]; done) | rfl⟩)
  · refine v_eqi 0 (bI_f c3) ?_
    refine v_if_eq C 19 dX5_copy_9 (by decide) (fun _ => ?_) (fun h => absurd h (by decide))
    refine v_iconst C (-1) dX5_copy_19 (by decide) ?_
    exact v_reti C hA dX5_copy_20 rfl (⟨by first | (simp only [cyF, cyT, cyOk, vS, hcB, bI, c3, not_false_eq_true, not_true_eq_false, and_self, and_true, true_and, and_false, false_and, ↓reduceIte]; done) | (simp only [cyF, cyT, cyOk, vS, hcB, bI, c3, not_false_eq_true, not_true_eq_false, and_self, and_true, true_and, and_false, false_and, ↓reduceIte]; rfl) | (simp [cyF, cyT, cyOk, vS, hcB, bI, c3]; done) | rfl, by first | (simp only [cyF, cyT, cyOk, vS, hcB, bI, c3, not_false_eq_true, not_true_eq_false, and_self, and_true, true_and, and_false, false_and, ↓reduceIte]; done) | (simp only [cyF, cyT, cyOk, vS, hcB, bI, c3, not_false_eq_true, not_true_eq_false, and_self, and_true, true_and, and_false, false_and, ↓reduceIte]; rfl) | (simp [cyF, cyT, cyOk, vS, hcB, bI, c3]; done) | rfl⟩)
