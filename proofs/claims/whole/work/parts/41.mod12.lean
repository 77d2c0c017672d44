def JR (f : Nat → Int32) (j : Nat) (g : Nat → Int32) : Prop := ∀ i, i < j → g (2 * i) = vKd f i ∧ g (2 * i + 1) = vAg f i
def KR (f : Nat → Int32) (F e : Nat) (g : Nat → Int32) : Prop := ∀ c, c < e → g (3 * c) = vCa f F 0 c ∧ g (3 * c + 1) = vCa f F 1 c ∧ g (3 * c + 2) = vCa f F 2 c
theorem JR_0 (f g : Nat → Int32) : JR f 0 g := fun i hi => absurd hi (by omega)
theorem KR_0 (f : Nat → Int32) (F : Nat) (g : Nat → Int32) : KR f F 0 g := fun i hi => absurd hi (by omega)
theorem upd_ne {f : Nat → Int32} {i j : Nat} {x : Int32} (h : j ≠ i) : upd f i x j = f j := by unfold upd; rw [if_neg h]
theorem JR_s {f : Nat → Int32} {S j : Nat} {g : Nat → Int32} (h : JR (cw f S) j g) : JR (cw f S) (j + 1) (upd (upd g (2 * j) (kdF (f (S + (3 + 3 * j + 1))))) (2 * j + 1) (f (S + (3 + 3 * j + 1) + 1) - 48)) := by
  intro i hi
  by_cases e : i = j
  · subst e
    rw [upd_ne (by omega), upd_at, upd_at]
    exact ⟨rfl, rfl⟩
  · rw [upd_ne (by omega), upd_ne (by omega), upd_ne (by omega), upd_ne (by omega)]
    exact h i (by omega)
theorem KR_s {f : Nat → Int32} {S F e : Nat} {g : Nat → Int32} (h : KR (cw f S) F e g) : KR (cw f S) F (e + 1) (upd (upd (upd g (3 * e) (f (S + (F + 4 * e + 1)) - 48)) (3 * e + 1) (f (S + (F + 4 * e + 1) + 1) - 48)) (3 * e + 2) (f (S + (F + 4 * e + 1) + 2) - 48)) := by
  intro i hi
  by_cases q : i = e
  · subst q
    rw [upd_ne (by omega), upd_ne (by omega), upd_at, upd_ne (by omega), upd_at, upd_at]
    exact ⟨rfl, rfl, rfl⟩
  · rw [upd_ne (by omega), upd_ne (by omega), upd_ne (by omega), upd_ne (by omega), upd_ne (by omega), upd_ne (by omega), upd_ne (by omega), upd_ne (by omega), upd_ne (by omega)]
    exact h i (by omega)
theorem go_jn {f : Nat → Int32} {j : Nat} (h : goB f (3 + 3 * j) none = true) : (f (3 + 3 * j) = 44 ∧ j < 5) ∨ (f (3 + 3 * j) = 59 ∧ 0 < j) := by
  rw [go_j0] at h
  simpa using h
theorem go_44 {f : Nat → Int32} (h : goB f 3 none = true) : f 3 = 44 := by
  rcases go_jn (j := 0) h with q | q
  · exact q.1
  · exact absurd q.2 (by omega)
theorem go_59 {f : Nat → Int32} {F e : Nat} (hF : 3 ≤ F) (h : goB f (F + 4 * e) (some F) = true) : f (F + 4 * e) = 59 ∧ e < 5 := by
  rw [go_cs hF] at h
  simpa using h
def RdG (f : Nat → Int32) (N nj nc : Nat) (rJ rK : Nat → Int32) : Prop := ffF f N = none ∧ cfN f N = some (3 + 3 * nj) ∧ (1 ≤ nj ∧ nj ≤ 5) ∧ (1 ≤ nc ∧ nc ≤ 5) ∧ N = 3 + 3 * nj + 4 * nc ∧ JR f nj rJ ∧ KR f (3 + 3 * nj) nc rK
theorem RdG_of {f : Nat → Int32} {N j e : Nat} {rJ rK : Nat → Int32} (hN : N = 3 + 3 * j + 4 * e) (hR : RS f N (3 + 3 * j + 4 * e)) (hc : cfN f (3 + 3 * j + 4 * e) = some (3 + 3 * j)) (hj : 1 ≤ j ∧ j ≤ 5) (he : 1 ≤ e ∧ e ≤ 5) (hJ : JR f j rJ) (hK : KR f (3 + 3 * j) e rK) : RdG f N j e rJ rK := by
  rw [← hN] at hR hc
  refine ⟨?_, hc, hj, he, hN, hJ, hK⟩
  rw [hR.2, Nat.sub_self, ffR, if_pos]
  rw [whB, hc]
  simp only [whC, decide_eq_true_eq]
  omega
set_option maxHeartbeats 4000000 in
set_option maxRecDepth 100000 in
theorem m_X5_readCourt {l : Launch} {D : va_G} {cI cB cS : ClassId} (b : Nat → Nat) (S N : Nat) (n_fa : Int32) (n_tr : Int32) (n_mi : Int32) (n_ju : Int32) (n_co : Int32) (n_cr : Int32) (n_rm : Int32) (n_rj : Int32) (n_rc : Int32) (n_nw : Int32) (n_ov : Int32) (n_rl : Int32) (n_rd : Int32) (n_ce : Nat → Int32) (n_rJ : Nat → Int32) (n_rK : Nat → Int32) (hSN : S + N ≤ 240) : Mi l yX5_readCourt cX5_readCourt 2 (some .boolean) 3 68 D cI cB cS [.ref (b 0), .int (nI (S + N))] [oN b n_fa n_tr n_mi n_ju n_co n_cr (nI (S + 0)) n_rm n_rj n_rc n_nw n_ov n_rl n_rd, ia (b 4) cI 240 n_ce, ia (b 20) cI 10 n_rJ, ia (b 21) cI 15 n_rK] (fun r w => (r = 1 ∧ ∃ (nj' nc' : Nat) (rJ' rK' : Nat → Int32), RdG (cw n_ce S) N nj' nc' rJ' rK' ∧ w = [oN b n_fa n_tr n_mi n_ju n_co n_cr (nI (S + N)) (tmF (cw n_ce S)) (nI nj') (nI nc') n_nw n_ov n_rl n_rd, ia (b 4) cI 240 n_ce, ia (b 20) cI 10 rJ', ia (b 21) cI 15 rK']) ∨ (r = 0 ∧ ∃ (pz : Nat) (rm' : Int32) (rj' : Int32) (rc' : Int32) (rJ' : Nat → Int32) (rK' : Nat → Int32), ffF (cw n_ce S) N = some pz ∧ w = [oN b n_fa n_tr n_mi n_ju n_co n_cr (nI (S + pz)) rm' rj' rc' n_nw n_ov n_rl n_rd, ia (b 4) cI 240 n_ce, ia (b 20) cI 10 rJ', ia (b 21) cI 15 rK'])) := by
  refine Mi.of (by decide) (Nat.le_of_ble_eq_true rfl) ?_
  intro zp ze zs zm zb zt zc zz zA hA C hnm
  refine v_lv0 [(0, .ref (b 0)), (1, .int (nI (S + N)))] rfl ?_
  refine v_aload_n C dX5_readCourt_0 0 rfl ?_
  refine v_iconst C 0 dX5_readCourt_1 (by decide) ?_
  refine v_put C p_X5_111 [oN b n_fa n_tr n_mi n_ju n_co n_cr (nI (S + 0)) n_rm 0 n_rc n_nw n_ov n_rl n_rd, ia (b 4) cI 240 n_ce, ia (b 20) cI 10 n_rJ, ia (b 21) cI 15 n_rK] dX5_readCourt_2 0 rfl rfl rfl (Nat.le_of_ble_eq_true rfl) rfl ?_
  refine v_aload_n C dX5_readCourt_5 0 rfl ?_
  refine v_iconst C 0 dX5_readCourt_6 (by decide) ?_
  refine v_put C p_X5_114 [oN b n_fa n_tr n_mi n_ju n_co n_cr (nI (S + 0)) n_rm 0 0 n_nw n_ov n_rl n_rd, ia (b 4) cI 240 n_ce, ia (b 20) cI 10 n_rJ, ia (b 21) cI 15 n_rK] dX5_readCourt_7 0 rfl rfl rfl (Nat.le_of_ble_eq_true rfl) rfl ?_
  refine v_aload_n C dX5_readCourt_10 0 rfl ?_
  refine v_iload_n C dX5_readCourt_11 1 rfl ?_
  refine v_bipush C 107 dX5_readCourt_12 (by decide) ?_
  refine v_callMi C l_X5_123 (m_X5_isSign b S N 0 n_fa n_tr n_mi n_ju n_co n_cr n_rm 0 0 n_nw n_ov n_rl n_rd n_ce 107 hSN (by omega)) (by decide) dX5_readCourt_14 [0, 1] [2, 3] (wr := [ia (b 20) cI 10 n_rJ, ia (b 21) cI 15 n_rK]) (by decide) rfl rfl (by decide) (by decide) 0 rfl rfl rfl (rest := []) rfl (Nat.le_of_ble_eq_true rfl) (by decide) (fun r3 w1 h2 => ?_)
  rcases h2 with ⟨sp4, sg4, rfl, rfl⟩ | ⟨sn4, rfl, rfl⟩
  · refine v_ws0 [ia (b 20) cI 10 n_rJ, ia (b 21) cI 15 n_rK, oN b n_fa n_tr n_mi n_ju n_co n_cr (nI (S + 0 + 1)) n_rm 0 0 n_nw n_ov n_rl n_rd, ia (b 4) cI 240 n_ce] rfl ?_
    have hR1 : RS (cw n_ce S) N 1 := RS_go RS_0 sp4 (by rw [go_0]; exact decide_eq_true sg4)
    have hc1 : cfN (cw n_ce S) 1 = none := cfN_none (p := 0) rfl (by show ¬ n_ce (S + 0) = 59; rw [sg4]; decide)
    refine v_if_eq C 46 dX5_readCourt_17 (by decide) (fun h => absurd h (by decide)) (fun _ => ?_)
    refine v_aload_n C dX5_readCourt_20 0 rfl ?_
    refine v_iload_n C dX5_readCourt_21 1 rfl ?_
    refine v_callMi C l_X5_127 (m_X5_readTheMinutes b S N n_fa n_tr n_mi n_ju n_co n_cr n_rm 0 0 n_nw n_ov n_rl n_rd n_ce hSN hR1 hc1 (by omega)) (by decide) dX5_readCourt_22 [2, 3] [0, 1] (wr := [ia (b 20) cI 10 n_rJ, ia (b 21) cI 15 n_rK]) (by decide) rfl rfl (by decide) (by decide) 2 rfl rfl rfl (rest := []) rfl (Nat.le_of_ble_eq_true rfl) (by decide) (fun r7 w5 h6 => ?_)
    rcases h6 with ⟨rfl, hr8, hc8, rfl⟩ | ⟨rfl, pz8, rm8, hf8, rfl⟩
    · refine v_ws0 [ia (b 20) cI 10 n_rJ, ia (b 21) cI 15 n_rK, oN b n_fa n_tr n_mi n_ju n_co n_cr (nI (S + 3)) (tmF (cw n_ce S)) 0 0 n_nw n_ov n_rl n_rd, ia (b 4) cI 240 n_ce] rfl ?_
      refine v_if_eq C 46 dX5_readCourt_25 (by decide) (fun h => absurd h (by decide)) (fun _ => ?_)
      refine v_aload_n C dX5_readCourt_28 0 rfl ?_
      refine v_iload_n C dX5_readCourt_29 1 rfl ?_
      refine v_bipush C 44 dX5_readCourt_30 (by decide) ?_
      refine v_callMi C l_X5_123 (m_X5_isSign b S N 3 n_fa n_tr n_mi n_ju n_co n_cr (tmF (cw n_ce S)) 0 0 n_nw n_ov n_rl n_rd n_ce 44 hSN hr8.1) (by decide) dX5_readCourt_32 [2, 3] [0, 1] (wr := [ia (b 20) cI 10 n_rJ, ia (b 21) cI 15 n_rK]) (by decide) rfl rfl (by decide) (by decide) 2 rfl rfl rfl (rest := []) rfl (Nat.le_of_ble_eq_true rfl) (by decide) (fun r11 w9 h10 => ?_)
      rcases h10 with ⟨sp12, sg12, rfl, rfl⟩ | ⟨sn12, rfl, rfl⟩
      · refine v_ws0 [ia (b 20) cI 10 n_rJ, ia (b 21) cI 15 n_rK, oN b n_fa n_tr n_mi n_ju n_co n_cr (nI (S + 3 + 1)) (tmF (cw n_ce S)) 0 0 n_nw n_ov n_rl n_rd, ia (b 4) cI 240 n_ce] rfl ?_
        have hR4 : RS (cw n_ce S) N 4 := RS_go hr8 sp12 (by rw [hc8]; refine (go_j0 (cw n_ce S) 0).trans ?_; have t : (cw n_ce S) (3 + 3 * 0) = 44 := sg12; rw [t]; decide)
        have hc4 : cfN (cw n_ce S) 4 = none := cfN_none hc8 (by show ¬ n_ce (S + 3) = 59; rw [sg12]; decide)
        refine v_if_eq C 46 dX5_readCourt_35 (by decide) (fun h => absurd h (by decide)) (fun _ => ?_)
        refine v_aload_n C dX5_readCourt_38 0 rfl ?_
        refine v_iload_n C dX5_readCourt_39 1 rfl ?_
        refine v_callMi C l_X5_130 (m_X5_readOneJuror b S N 4 0 n_fa n_tr n_mi n_ju n_co n_cr (tmF (cw n_ce S)) 0 n_nw n_ov n_rl n_rd n_ce n_rJ hSN hR4.1 (by omega) rfl hR4 hc4) (by decide) dX5_readCourt_40 [2, 3, 0] [1] (wr := [ia (b 21) cI 15 n_rK]) (by decide) rfl rfl (by decide) (by decide) 2 rfl rfl rfl (rest := []) rfl (Nat.le_of_ble_eq_true rfl) (by decide) (fun r15 w13 h14 => ?_)
        rcases h14 with ⟨rfl, hr16, hc16, rfl⟩ | ⟨rfl, pz16, rj16, rJ16, hf16, rfl⟩
        · refine v_ws0 [ia (b 21) cI 15 n_rK, oN b n_fa n_tr n_mi n_ju n_co n_cr (nI (S + (4 + 2))) (tmF (cw n_ce S)) (nI (0 + 1)) 0 n_nw n_ov n_rl n_rd, ia (b 4) cI 240 n_ce, ia (b 20) cI 10 (upd (upd n_rJ (2 * 0) (kdF (n_ce (S + 4)))) (2 * 0 + 1) (n_ce (S + 4 + 1) - 48))] rfl ?_
          refine v_if_ne C 48 dX5_readCourt_43 (by decide) (fun _ => ?_) (fun h => absurd h (by decide))
          refine v_perm (ws' := [oN b n_fa n_tr n_mi n_ju n_co n_cr (nI (S + (4 + 2))) (tmF (cw n_ce S)) (nI (0 + 1)) 0 n_nw n_ov n_rl n_rd, ia (b 4) cI 240 n_ce, ia (b 20) cI 10 (upd (upd n_rJ (2 * 0) (kdF (n_ce (S + 4)))) (2 * 0 + 1) (n_ce (S + 4 + 1) - 48)), ia (b 21) cI 15 n_rK]) [1, 2, 3, 0] (by decide) rfl ?_
          refine v_ws0 [oN b n_fa n_tr n_mi n_ju n_co n_cr (nI (S + (3 + 3 * 1))) (tmF (cw n_ce S)) (nI 1) 0 n_nw n_ov n_rl n_rd, ia (b 4) cI 240 n_ce, ia (b 20) cI 10 (upd (upd n_rJ (2 * 0) (kdF (n_ce (S + 4)))) (2 * 0 + 1) (n_ce (S + 4 + 1) - 48)), ia (b 21) cI 15 n_rK] rfl ?_
          have lp : ∀ (n_18 : Nat) (j : Nat) (rJ1 : Nat → Int32), 5 - j < n_18 → (1 ≤ j ∧ j ≤ 5) → (RS (cw n_ce S) N (3 + 3 * j)) → (cfN (cw n_ce S) (3 + 3 * j) = none) → (JR (cw n_ce S) j rJ1) → V zp l ze (rmOf 3 68) zs zm [.ref (b 0), .int (nI (S + N))].toArray zb zt zc D (IM zA zs) (QMi zb [.ref (b 0), .int (nI (S + N))].toArray zs D cI cB cS [oN b n_fa n_tr n_mi n_ju n_co n_cr (nI (S + 0)) n_rm n_rj n_rc n_nw n_ov n_rl n_rd, ia (b 4) cI 240 n_ce, ia (b 20) cI 10 n_rJ, ia (b 21) cI 15 n_rK] zz (fun r w => (r = 1 ∧ ∃ (nj' nc' : Nat) (rJ' rK' : Nat → Int32), RdG (cw n_ce S) N nj' nc' rJ' rK' ∧ w = [oN b n_fa n_tr n_mi n_ju n_co n_cr (nI (S + N)) (tmF (cw n_ce S)) (nI nj') (nI nc') n_nw n_ov n_rl n_rd, ia (b 4) cI 240 n_ce, ia (b 20) cI 10 rJ', ia (b 21) cI 15 rK']) ∨ (r = 0 ∧ ∃ (pz : Nat) (rm' : Int32) (rj' : Int32) (rc' : Int32) (rJ' : Nat → Int32) (rK' : Nat → Int32), ffF (cw n_ce S) N = some pz ∧ w = [oN b n_fa n_tr n_mi n_ju n_co n_cr (nI (S + pz)) rm' rj' rc' n_nw n_ov n_rl n_rd, ia (b 4) cI 240 n_ce, ia (b 20) cI 10 rJ', ia (b 21) cI 15 rK']))) 0 0 2 [oN b n_fa n_tr n_mi n_ju n_co n_cr (nI (S + (3 + 3 * j))) (tmF (cw n_ce S)) (nI j) 0 n_nw n_ov n_rl n_rd, ia (b 4) cI 240 n_ce, ia (b 20) cI 10 rJ1, ia (b 21) cI 15 n_rK] [(0, .ref (b 0)), (1, .int (nI (S + N)))] 48 [] := by
            intro n_18
            induction n_18 with
            | zero => intro j rJ1 b17; exact absurd b17 (by omega)
            | succ n_18 ihn_18 =>
              intro j rJ1 b17 hj hR hcf hJ
              refine v_aload_n C dX5_readCourt_48 0 rfl ?_
              refine v_get C f_X5_111 dX5_readCourt_49 0 rfl rfl ?_
              refine v_iconst C 5 dX5_readCourt_52 (by decide) ?_
              refine v_icmp_ge C 76 dX5_readCourt_53 (by decide) (fun c19 => ?_) (fun c19 => ?_)
              · have nc19 : 5 ≤ j := nI_leD c19 (by omega)
                refine v_aload_n C dX5_readCourt_76 0 rfl ?_
                refine v_iload_n C dX5_readCourt_77 1 rfl ?_
                refine v_bipush C 59 dX5_readCourt_78 (by decide) ?_
                refine v_callMi C l_X5_123 (m_X5_isSign b S N (3 + 3 * j) n_fa n_tr n_mi n_ju n_co n_cr (tmF (cw n_ce S)) (nI j) 0 n_nw n_ov n_rl n_rd n_ce 59 hSN hR.1) (by decide) dX5_readCourt_80 [0, 1] [2, 3] (wr := [ia (b 20) cI 10 rJ1, ia (b 21) cI 15 n_rK]) (by decide) rfl rfl (by decide) (by decide) 0 rfl rfl rfl (rest := []) rfl (Nat.le_of_ble_eq_true rfl) (by decide) (fun r22 w20 h21 => ?_)
                rcases h21 with ⟨sp23, sg23, rfl, rfl⟩ | ⟨sn23, rfl, rfl⟩
                · refine v_ws0 [ia (b 20) cI 10 rJ1, ia (b 21) cI 15 n_rK, oN b n_fa n_tr n_mi n_ju n_co n_cr (nI (S + (3 + 3 * j) + 1)) (tmF (cw n_ce S)) (nI j) 0 n_nw n_ov n_rl n_rd, ia (b 4) cI 240 n_ce] rfl ?_
                  have hR59 : RS (cw n_ce S) N (3 + 3 * j + 1) := RS_go hR sp23 (by rw [hcf, go_j0]; have t : (cw n_ce S) (3 + 3 * j) = 59 := sg23; have u : 0 < j := (by omega); simp [t, u])
                  have hc59 : cfN (cw n_ce S) (3 + 3 * j + 1) = some (3 + 3 * j) := cfN_semi hcf sg23
                  refine v_if_eq C 94 dX5_readCourt_83 (by decide) (fun h => absurd h (by decide)) (fun _ => ?_)
                  refine v_aload_n C dX5_readCourt_86 0 rfl ?_
                  refine v_iload_n C dX5_readCourt_87 1 rfl ?_
                  refine v_callMi C l_X5_133 (m_X5_readOneCase b S N (3 + 3 * j + 1) 0 (3 + 3 * j) n_fa n_tr n_mi n_ju n_co n_cr (tmF (cw n_ce S)) (nI j) n_nw n_ov n_rl n_rd n_ce n_rK hSN hR59.1 (by omega) (by omega) rfl hR59 hc59) (by decide) dX5_readCourt_88 [2, 3, 1] [0] (wr := [ia (b 20) cI 10 rJ1]) (by decide) rfl rfl (by decide) (by decide) 2 rfl rfl rfl (rest := []) rfl (Nat.le_of_ble_eq_true rfl) (by decide) (fun r26 w24 h25 => ?_)
                  rcases h25 with ⟨rfl, hr27, hc27, rfl⟩ | ⟨rfl, pz27, rc27, rK27, hf27, rfl⟩
                  · refine v_ws0 [ia (b 20) cI 10 rJ1, oN b n_fa n_tr n_mi n_ju n_co n_cr (nI (S + (3 + 3 * j + 1 + 3))) (tmF (cw n_ce S)) (nI j) (nI (0 + 1)) n_nw n_ov n_rl n_rd, ia (b 4) cI 240 n_ce, ia (b 21) cI 15 (upd (upd (upd n_rK (3 * 0) (n_ce (S + (3 + 3 * j + 1)) - 48)) (3 * 0 + 1) (n_ce (S + (3 + 3 * j + 1) + 1) - 48)) (3 * 0 + 2) (n_ce (S + (3 + 3 * j + 1) + 2) - 48))] rfl ?_
                    refine v_if_ne C 96 dX5_readCourt_91 (by decide) (fun _ => ?_) (fun h => absurd h (by decide))
                    refine v_perm (ws' := [oN b n_fa n_tr n_mi n_ju n_co n_cr (nI (S + (3 + 3 * j + 1 + 3))) (tmF (cw n_ce S)) (nI j) (nI (0 + 1)) n_nw n_ov n_rl n_rd, ia (b 4) cI 240 n_ce, ia (b 20) cI 10 rJ1, ia (b 21) cI 15 (upd (upd (upd n_rK (3 * 0) (n_ce (S + (3 + 3 * j + 1)) - 48)) (3 * 0 + 1) (n_ce (S + (3 + 3 * j + 1) + 1) - 48)) (3 * 0 + 2) (n_ce (S + (3 + 3 * j + 1) + 2) - 48))]) [1, 2, 0, 3] (by decide) rfl ?_
                    refine v_ws0 [oN b n_fa n_tr n_mi n_ju n_co n_cr (nI (S + (3 + 3 * j + 4 * 1))) (tmF (cw n_ce S)) (nI j) (nI 1) n_nw n_ov n_rl n_rd, ia (b 4) cI 240 n_ce, ia (b 20) cI 10 rJ1, ia (b 21) cI 15 (upd (upd (upd n_rK (3 * 0) (n_ce (S + (3 + 3 * j + 1)) - 48)) (3 * 0 + 1) (n_ce (S + (3 + 3 * j + 1) + 1) - 48)) (3 * 0 + 2) (n_ce (S + (3 + 3 * j + 1) + 2) - 48))] rfl ?_
                    have lq : ∀ (n_29 : Nat) (e : Nat) (rK1 : Nat → Int32), 5 - e < n_29 → (1 ≤ e ∧ e ≤ 5) → (RS (cw n_ce S) N (3 + 3 * j + 4 * e)) → (cfN (cw n_ce S) (3 + 3 * j + 4 * e) = some (3 + 3 * j)) → (KR (cw n_ce S) (3 + 3 * j) e rK1) → V zp l ze (rmOf 3 68) zs zm [.ref (b 0), .int (nI (S + N))].toArray zb zt zc D (IM zA zs) (QMi zb [.ref (b 0), .int (nI (S + N))].toArray zs D cI cB cS [oN b n_fa n_tr n_mi n_ju n_co n_cr (nI (S + 0)) n_rm n_rj n_rc n_nw n_ov n_rl n_rd, ia (b 4) cI 240 n_ce, ia (b 20) cI 10 n_rJ, ia (b 21) cI 15 n_rK] zz (fun r w => (r = 1 ∧ ∃ (nj' nc' : Nat) (rJ' rK' : Nat → Int32), RdG (cw n_ce S) N nj' nc' rJ' rK' ∧ w = [oN b n_fa n_tr n_mi n_ju n_co n_cr (nI (S + N)) (tmF (cw n_ce S)) (nI nj') (nI nc') n_nw n_ov n_rl n_rd, ia (b 4) cI 240 n_ce, ia (b 20) cI 10 rJ', ia (b 21) cI 15 rK']) ∨ (r = 0 ∧ ∃ (pz : Nat) (rm' : Int32) (rj' : Int32) (rc' : Int32) (rJ' : Nat → Int32) (rK' : Nat → Int32), ffF (cw n_ce S) N = some pz ∧ w = [oN b n_fa n_tr n_mi n_ju n_co n_cr (nI (S + pz)) rm' rj' rc' n_nw n_ov n_rl n_rd, ia (b 4) cI 240 n_ce, ia (b 20) cI 10 rJ', ia (b 21) cI 15 rK']))) 0 0 2 [oN b n_fa n_tr n_mi n_ju n_co n_cr (nI (S + (3 + 3 * j + 4 * e))) (tmF (cw n_ce S)) (nI j) (nI e) n_nw n_ov n_rl n_rd, ia (b 4) cI 240 n_ce, ia (b 20) cI 10 rJ1, ia (b 21) cI 15 rK1] [(0, .ref (b 0)), (1, .int (nI (S + N)))] 96 [] := by
                      intro n_29
                      induction n_29 with
                      | zero => intro e rK1 b28; exact absurd b28 (by omega)
                      | succ n_29 ihn_29 =>
                        intro e rK1 b28 he hRe hce2 hK
                        refine v_aload_n C dX5_readCourt_96 0 rfl ?_
                        refine v_get C f_X5_114 dX5_readCourt_97 0 rfl rfl ?_
                        refine v_iconst C 5 dX5_readCourt_100 (by decide) ?_
                        refine v_icmp_ge C 124 dX5_readCourt_101 (by decide) (fun c30 => ?_) (fun c30 => ?_)
                        · have nc30 : 5 ≤ e := nI_leD c30 (by omega)
                          refine v_aload_n C dX5_readCourt_124 0 rfl ?_
                          refine v_get C f_X5_84 dX5_readCourt_125 0 rfl rfl ?_
                          refine v_iload_n C dX5_readCourt_128 1 rfl ?_
                          refine v_icmp_ne C 136 dX5_readCourt_129 (by decide) (fun c31 => ?_) (fun c31 => ?_)
                          · have nc31 : (S + (3 + 3 * j + 4 * e)) ≠ (S + N) := fun q => c31 (by rw [q])
                            refine v_iconst C 0 dX5_readCourt_136 (by decide) ?_
                            exact v_reti C hA dX5_readCourt_137 rfl (Or.inr ⟨rfl, _, _, _, _, _, _, RS_fault hRe (fun q => (fun t => absurd t.2 (by omega)) (go_59 (f := (cw n_ce S)) (F := 3 + 3 * j) (e := e) (by omega) (by have t := q.2; rw [hce2] at t; exact t))) (fun q => absurd q (by omega)), rfl⟩)
                          · have nc31 : (S + (3 + 3 * j + 4 * e)) = (S + N) := nI_eqP c31 (by omega) (by omega)
                            refine v_iconst C 1 dX5_readCourt_132 (by decide) ?_
                            refine v_goto C 137 dX5_readCourt_133 (by decide) ?_
                            exact v_reti C hA dX5_readCourt_137 rfl (Or.inl ⟨rfl, j, e, rJ1, rK1, RdG_of (by omega) hRe hce2 hj he hJ hK, by rw [show N = 3 + 3 * j + 4 * e by omega]⟩)
                        · have nc30 : e < 5 := nI_ltD c30 (by omega)
                          refine v_aload_n C dX5_readCourt_104 0 rfl ?_
                          refine v_iload_n C dX5_readCourt_105 1 rfl ?_
                          refine v_bipush C 59 dX5_readCourt_106 (by decide) ?_
                          refine v_callMi C l_X5_123 (m_X5_isSign b S N (3 + 3 * j + 4 * e) n_fa n_tr n_mi n_ju n_co n_cr (tmF (cw n_ce S)) (nI j) (nI e) n_nw n_ov n_rl n_rd n_ce 59 hSN hRe.1) (by decide) dX5_readCourt_108 [0, 1] [2, 3] (wr := [ia (b 20) cI 10 rJ1, ia (b 21) cI 15 rK1]) (by decide) rfl rfl (by decide) (by decide) 0 rfl rfl rfl (rest := []) rfl (Nat.le_of_ble_eq_true rfl) (by decide) (fun r34 w32 h33 => ?_)
                          rcases h33 with ⟨sp35, sg35, rfl, rfl⟩ | ⟨sn35, rfl, rfl⟩
                          · refine v_ws0 [ia (b 20) cI 10 rJ1, ia (b 21) cI 15 rK1, oN b n_fa n_tr n_mi n_ju n_co n_cr (nI (S + (3 + 3 * j + 4 * e) + 1)) (tmF (cw n_ce S)) (nI j) (nI e) n_nw n_ov n_rl n_rd, ia (b 4) cI 240 n_ce] rfl ?_
                            have hRk : RS (cw n_ce S) N (3 + 3 * j + 4 * e + 1) := RS_go hRe sp35 (by rw [hce2, go_cs (by omega)]; have t : (cw n_ce S) (3 + 3 * j + 4 * e) = 59 := sg35; have u : e < 5 := (by omega); simp [t, u])
                            have hck : cfN (cw n_ce S) (3 + 3 * j + 4 * e + 1) = some (3 + 3 * j) := cfN_some hce2
                            refine v_if_eq C 124 dX5_readCourt_111 (by decide) (fun h => absurd h (by decide)) (fun _ => ?_)
                            refine v_aload_n C dX5_readCourt_114 0 rfl ?_
                            refine v_iload_n C dX5_readCourt_115 1 rfl ?_
                            refine v_callMi C l_X5_133 (m_X5_readOneCase b S N (3 + 3 * j + 4 * e + 1) e (3 + 3 * j) n_fa n_tr n_mi n_ju n_co n_cr (tmF (cw n_ce S)) (nI j) n_nw n_ov n_rl n_rd n_ce rK1 hSN hRk.1 (by omega) (by omega) rfl hRk hck) (by decide) dX5_readCourt_116 [2, 3, 1] [0] (wr := [ia (b 20) cI 10 rJ1]) (by decide) rfl rfl (by decide) (by decide) 2 rfl rfl rfl (rest := []) rfl (Nat.le_of_ble_eq_true rfl) (by decide) (fun r38 w36 h37 => ?_)
                            rcases h37 with ⟨rfl, hr39, hc39, rfl⟩ | ⟨rfl, pz39, rc39, rK39, hf39, rfl⟩
                            · refine v_ws0 [ia (b 20) cI 10 rJ1, oN b n_fa n_tr n_mi n_ju n_co n_cr (nI (S + (3 + 3 * j + 4 * e + 1 + 3))) (tmF (cw n_ce S)) (nI j) (nI (e + 1)) n_nw n_ov n_rl n_rd, ia (b 4) cI 240 n_ce, ia (b 21) cI 15 (upd (upd (upd rK1 (3 * e) (n_ce (S + (3 + 3 * j + 4 * e + 1)) - 48)) (3 * e + 1) (n_ce (S + (3 + 3 * j + 4 * e + 1) + 1) - 48)) (3 * e + 2) (n_ce (S + (3 + 3 * j + 4 * e + 1) + 2) - 48))] rfl ?_
                              refine v_if_ne C 96 dX5_readCourt_119 (by decide) (fun _ => ?_) (fun h => absurd h (by decide))
                              refine v_perm (ws' := [oN b n_fa n_tr n_mi n_ju n_co n_cr (nI (S + (3 + 3 * j + 4 * e + 1 + 3))) (tmF (cw n_ce S)) (nI j) (nI (e + 1)) n_nw n_ov n_rl n_rd, ia (b 4) cI 240 n_ce, ia (b 20) cI 10 rJ1, ia (b 21) cI 15 (upd (upd (upd rK1 (3 * e) (n_ce (S + (3 + 3 * j + 4 * e + 1)) - 48)) (3 * e + 1) (n_ce (S + (3 + 3 * j + 4 * e + 1) + 1) - 48)) (3 * e + 2) (n_ce (S + (3 + 3 * j + 4 * e + 1) + 2) - 48))]) [1, 2, 0, 3] (by decide) rfl ?_
                              refine v_ws0 [oN b n_fa n_tr n_mi n_ju n_co n_cr (nI (S + (3 + 3 * j + 4 * (e + 1)))) (tmF (cw n_ce S)) (nI j) (nI (e + 1)) n_nw n_ov n_rl n_rd, ia (b 4) cI 240 n_ce, ia (b 20) cI 10 rJ1, ia (b 21) cI 15 (upd (upd (upd rK1 (3 * e) (n_ce (S + (3 + 3 * j + 4 * e + 1)) - 48)) (3 * e + 1) (n_ce (S + (3 + 3 * j + 4 * e + 1) + 1) - 48)) (3 * e + 2) (n_ce (S + (3 + 3 * j + 4 * e + 1) + 2) - 48))] (by rw [show 3 + 3 * j + 4 * e + 1 + 3 = 3 + 3 * j + 4 * (e + 1) by omega]) ?_
                              exact ihn_29 (e + 1) (upd (upd (upd rK1 (3 * e) (n_ce (S + (3 + 3 * j + 4 * e + 1)) - 48)) (3 * e + 1) (n_ce (S + (3 + 3 * j + 4 * e + 1) + 1) - 48)) (3 * e + 2) (n_ce (S + (3 + 3 * j + 4 * e + 1) + 2) - 48)) (by omega) (by omega) (by have t := hr39; rw [show 3 + 3 * j + 4 * e + 1 + 3 = 3 + 3 * j + 4 * (e + 1) by omega] at t; exact t) (by have t := hc39; rw [show 3 + 3 * j + 4 * e + 1 + 3 = 3 + 3 * j + 4 * (e + 1) by omega] at t; exact t) (KR_s hK)
                            · refine v_ws0 [ia (b 20) cI 10 rJ1, oN b n_fa n_tr n_mi n_ju n_co n_cr (nI (S + pz39)) (tmF (cw n_ce S)) (nI j) rc39 n_nw n_ov n_rl n_rd, ia (b 4) cI 240 n_ce, ia (b 21) cI 15 rK39] rfl ?_
                              refine v_if_ne C 96 dX5_readCourt_119 (by decide) (fun h => absurd h (by decide)) (fun _ => ?_)
                              refine v_iconst C 0 dX5_readCourt_122 (by decide) ?_
                              refine v_perm (ws' := [oN b n_fa n_tr n_mi n_ju n_co n_cr (nI (S + pz39)) (tmF (cw n_ce S)) (nI j) rc39 n_nw n_ov n_rl n_rd, ia (b 4) cI 240 n_ce, ia (b 20) cI 10 rJ1, ia (b 21) cI 15 rK39]) [1, 2, 0, 3] (by decide) rfl ?_
                              exact v_reti C hA dX5_readCourt_123 rfl (Or.inr ⟨rfl, _, _, _, _, _, _, hf39, rfl⟩)
                          · refine v_ws0 [ia (b 20) cI 10 rJ1, ia (b 21) cI 15 rK1, oN b n_fa n_tr n_mi n_ju n_co n_cr (nI (S + (3 + 3 * j + 4 * e))) (tmF (cw n_ce S)) (nI j) (nI e) n_nw n_ov n_rl n_rd, ia (b 4) cI 240 n_ce] rfl ?_
                            refine v_if_eq C 124 dX5_readCourt_111 (by decide) (fun _ => ?_) (fun h => absurd h (by decide))
                            refine v_aload_n C dX5_readCourt_124 0 rfl ?_
                            refine v_get C f_X5_84 dX5_readCourt_125 2 rfl rfl ?_
                            refine v_iload_n C dX5_readCourt_128 1 rfl ?_
                            refine v_icmp_ne C 136 dX5_readCourt_129 (by decide) (fun c40 => ?_) (fun c40 => ?_)
                            · have nc40 : (S + (3 + 3 * j + 4 * e)) ≠ (S + N) := fun q => c40 (by rw [q])
                              refine v_iconst C 0 dX5_readCourt_136 (by decide) ?_
                              refine v_perm (ws' := [oN b n_fa n_tr n_mi n_ju n_co n_cr (nI (S + (3 + 3 * j + 4 * e))) (tmF (cw n_ce S)) (nI j) (nI e) n_nw n_ov n_rl n_rd, ia (b 4) cI 240 n_ce, ia (b 20) cI 10 rJ1, ia (b 21) cI 15 rK1]) [2, 3, 0, 1] (by decide) rfl ?_
                              exact v_reti C hA dX5_readCourt_137 rfl (Or.inr ⟨rfl, _, _, _, _, _, _, RS_fault hRe (fun q => (fun t => sn35 ⟨q.1, t.1⟩) (go_59 (f := (cw n_ce S)) (F := 3 + 3 * j) (e := e) (by omega) (by have t := q.2; rw [hce2] at t; exact t))) (fun q => absurd q (by omega)), rfl⟩)
                            · have nc40 : (S + (3 + 3 * j + 4 * e)) = (S + N) := nI_eqP c40 (by omega) (by omega)
                              refine v_iconst C 1 dX5_readCourt_132 (by decide) ?_
                              refine v_goto C 137 dX5_readCourt_133 (by decide) ?_
                              refine v_perm (ws' := [oN b n_fa n_tr n_mi n_ju n_co n_cr (nI (S + (3 + 3 * j + 4 * e))) (tmF (cw n_ce S)) (nI j) (nI e) n_nw n_ov n_rl n_rd, ia (b 4) cI 240 n_ce, ia (b 20) cI 10 rJ1, ia (b 21) cI 15 rK1]) [2, 3, 0, 1] (by decide) rfl ?_
                              exact v_reti C hA dX5_readCourt_137 rfl (Or.inl ⟨rfl, j, e, rJ1, rK1, RdG_of (by omega) hRe hce2 hj he hJ hK, by rw [show N = 3 + 3 * j + 4 * e by omega]⟩)
                    exact lq (5 - 1 + 1) 1 (upd (upd (upd n_rK (3 * 0) (n_ce (S + (3 + 3 * j + 1)) - 48)) (3 * 0 + 1) (n_ce (S + (3 + 3 * j + 1) + 1) - 48)) (3 * 0 + 2) (n_ce (S + (3 + 3 * j + 1) + 2) - 48)) (by omega) (by omega) hr27 hc27 (KR_s (e := 0) (KR_0 _ _ _))
                  · refine v_ws0 [ia (b 20) cI 10 rJ1, oN b n_fa n_tr n_mi n_ju n_co n_cr (nI (S + pz27)) (tmF (cw n_ce S)) (nI j) rc27 n_nw n_ov n_rl n_rd, ia (b 4) cI 240 n_ce, ia (b 21) cI 15 rK27] rfl ?_
                    refine v_if_ne C 96 dX5_readCourt_91 (by decide) (fun h => absurd h (by decide)) (fun _ => ?_)
                    refine v_iconst C 0 dX5_readCourt_94 (by decide) ?_
                    refine v_perm (ws' := [oN b n_fa n_tr n_mi n_ju n_co n_cr (nI (S + pz27)) (tmF (cw n_ce S)) (nI j) rc27 n_nw n_ov n_rl n_rd, ia (b 4) cI 240 n_ce, ia (b 20) cI 10 rJ1, ia (b 21) cI 15 rK27]) [1, 2, 0, 3] (by decide) rfl ?_
                    exact v_reti C hA dX5_readCourt_95 rfl (Or.inr ⟨rfl, _, _, _, _, _, _, hf27, rfl⟩)
                · refine v_ws0 [ia (b 20) cI 10 rJ1, ia (b 21) cI 15 n_rK, oN b n_fa n_tr n_mi n_ju n_co n_cr (nI (S + (3 + 3 * j))) (tmF (cw n_ce S)) (nI j) 0 n_nw n_ov n_rl n_rd, ia (b 4) cI 240 n_ce] rfl ?_
                  refine v_if_eq C 94 dX5_readCourt_83 (by decide) (fun _ => ?_) (fun h => absurd h (by decide))
                  refine v_iconst C 0 dX5_readCourt_94 (by decide) ?_
                  refine v_perm (ws' := [oN b n_fa n_tr n_mi n_ju n_co n_cr (nI (S + (3 + 3 * j))) (tmF (cw n_ce S)) (nI j) 0 n_nw n_ov n_rl n_rd, ia (b 4) cI 240 n_ce, ia (b 20) cI 10 rJ1, ia (b 21) cI 15 n_rK]) [2, 3, 0, 1] (by decide) rfl ?_
                  exact v_reti C hA dX5_readCourt_95 rfl (Or.inr ⟨rfl, 3 + 3 * j, _, _, _, _, _, RS_fault hR (fun q => (go_jn (by have t := q.2; rw [hcf] at t; exact t)).elim (fun t => absurd t.2 (by omega)) (fun t => sn23 ⟨q.1, t.1⟩)) (fun q => wh_none hcf q), rfl⟩)
              · have nc19 : j < 5 := nI_ltD c19 (by omega)
                refine v_aload_n C dX5_readCourt_56 0 rfl ?_
                refine v_iload_n C dX5_readCourt_57 1 rfl ?_
                refine v_bipush C 44 dX5_readCourt_58 (by decide) ?_
                refine v_callMi C l_X5_123 (m_X5_isSign b S N (3 + 3 * j) n_fa n_tr n_mi n_ju n_co n_cr (tmF (cw n_ce S)) (nI j) 0 n_nw n_ov n_rl n_rd n_ce 44 hSN hR.1) (by decide) dX5_readCourt_60 [0, 1] [2, 3] (wr := [ia (b 20) cI 10 rJ1, ia (b 21) cI 15 n_rK]) (by decide) rfl rfl (by decide) (by decide) 0 rfl rfl rfl (rest := []) rfl (Nat.le_of_ble_eq_true rfl) (by decide) (fun r43 w41 h42 => ?_)
                rcases h42 with ⟨sp44, sg44, rfl, rfl⟩ | ⟨sn44, rfl, rfl⟩
                · refine v_ws0 [ia (b 20) cI 10 rJ1, ia (b 21) cI 15 n_rK, oN b n_fa n_tr n_mi n_ju n_co n_cr (nI (S + (3 + 3 * j) + 1)) (tmF (cw n_ce S)) (nI j) 0 n_nw n_ov n_rl n_rd, ia (b 4) cI 240 n_ce] rfl ?_
                  have hRj : RS (cw n_ce S) N (3 + 3 * j + 1) := RS_go hR sp44 (by rw [hcf, go_j0]; have t : (cw n_ce S) (3 + 3 * j) = 44 := sg44; have u : j < 5 := (by omega); simp [t, u])
                  have hcj : cfN (cw n_ce S) (3 + 3 * j + 1) = none := cfN_none hcf (by show ¬ n_ce (S + (3 + 3 * j)) = 59; rw [sg44]; decide)
                  refine v_if_eq C 76 dX5_readCourt_63 (by decide) (fun h => absurd h (by decide)) (fun _ => ?_)
                  refine v_aload_n C dX5_readCourt_66 0 rfl ?_
                  refine v_iload_n C dX5_readCourt_67 1 rfl ?_
                  refine v_callMi C l_X5_130 (m_X5_readOneJuror b S N (3 + 3 * j + 1) j n_fa n_tr n_mi n_ju n_co n_cr (tmF (cw n_ce S)) 0 n_nw n_ov n_rl n_rd n_ce rJ1 hSN hRj.1 (by omega) rfl hRj hcj) (by decide) dX5_readCourt_68 [2, 3, 0] [1] (wr := [ia (b 21) cI 15 n_rK]) (by decide) rfl rfl (by decide) (by decide) 2 rfl rfl rfl (rest := []) rfl (Nat.le_of_ble_eq_true rfl) (by decide) (fun r47 w45 h46 => ?_)
                  rcases h46 with ⟨rfl, hr48, hc48, rfl⟩ | ⟨rfl, pz48, rj48, rJ48, hf48, rfl⟩
                  · refine v_ws0 [ia (b 21) cI 15 n_rK, oN b n_fa n_tr n_mi n_ju n_co n_cr (nI (S + (3 + 3 * j + 1 + 2))) (tmF (cw n_ce S)) (nI (j + 1)) 0 n_nw n_ov n_rl n_rd, ia (b 4) cI 240 n_ce, ia (b 20) cI 10 (upd (upd rJ1 (2 * j) (kdF (n_ce (S + (3 + 3 * j + 1))))) (2 * j + 1) (n_ce (S + (3 + 3 * j + 1) + 1) - 48))] rfl ?_
                    refine v_if_ne C 48 dX5_readCourt_71 (by decide) (fun _ => ?_) (fun h => absurd h (by decide))
                    refine v_perm (ws' := [oN b n_fa n_tr n_mi n_ju n_co n_cr (nI (S + (3 + 3 * j + 1 + 2))) (tmF (cw n_ce S)) (nI (j + 1)) 0 n_nw n_ov n_rl n_rd, ia (b 4) cI 240 n_ce, ia (b 20) cI 10 (upd (upd rJ1 (2 * j) (kdF (n_ce (S + (3 + 3 * j + 1))))) (2 * j + 1) (n_ce (S + (3 + 3 * j + 1) + 1) - 48)), ia (b 21) cI 15 n_rK]) [1, 2, 3, 0] (by decide) rfl ?_
                    refine v_ws0 [oN b n_fa n_tr n_mi n_ju n_co n_cr (nI (S + (3 + 3 * (j + 1)))) (tmF (cw n_ce S)) (nI (j + 1)) 0 n_nw n_ov n_rl n_rd, ia (b 4) cI 240 n_ce, ia (b 20) cI 10 (upd (upd rJ1 (2 * j) (kdF (n_ce (S + (3 + 3 * j + 1))))) (2 * j + 1) (n_ce (S + (3 + 3 * j + 1) + 1) - 48)), ia (b 21) cI 15 n_rK] (by rw [show 3 + 3 * j + 1 + 2 = 3 + 3 * (j + 1) by omega]) ?_
                    exact ihn_18 (j + 1) (upd (upd rJ1 (2 * j) (kdF (n_ce (S + (3 + 3 * j + 1))))) (2 * j + 1) (n_ce (S + (3 + 3 * j + 1) + 1) - 48)) (by omega) (by omega) (by have t := hr48; rw [show 3 + 3 * j + 1 + 2 = 3 + 3 * (j + 1) by omega] at t; exact t) (by have t := hc48; rw [show 3 + 3 * j + 1 + 2 = 3 + 3 * (j + 1) by omega] at t; exact t) (JR_s hJ)
                  · refine v_ws0 [ia (b 21) cI 15 n_rK, oN b n_fa n_tr n_mi n_ju n_co n_cr (nI (S + pz48)) (tmF (cw n_ce S)) rj48 0 n_nw n_ov n_rl n_rd, ia (b 4) cI 240 n_ce, ia (b 20) cI 10 rJ48] rfl ?_
                    refine v_if_ne C 48 dX5_readCourt_71 (by decide) (fun h => absurd h (by decide)) (fun _ => ?_)
                    refine v_iconst C 0 dX5_readCourt_74 (by decide) ?_
                    refine v_perm (ws' := [oN b n_fa n_tr n_mi n_ju n_co n_cr (nI (S + pz48)) (tmF (cw n_ce S)) rj48 0 n_nw n_ov n_rl n_rd, ia (b 4) cI 240 n_ce, ia (b 20) cI 10 rJ48, ia (b 21) cI 15 n_rK]) [1, 2, 3, 0] (by decide) rfl ?_
                    exact v_reti C hA dX5_readCourt_75 rfl (Or.inr ⟨rfl, _, _, _, _, _, _, hf48, rfl⟩)
                · refine v_ws0 [ia (b 20) cI 10 rJ1, ia (b 21) cI 15 n_rK, oN b n_fa n_tr n_mi n_ju n_co n_cr (nI (S + (3 + 3 * j))) (tmF (cw n_ce S)) (nI j) 0 n_nw n_ov n_rl n_rd, ia (b 4) cI 240 n_ce] rfl ?_
                  refine v_if_eq C 76 dX5_readCourt_63 (by decide) (fun _ => ?_) (fun h => absurd h (by decide))
                  refine v_aload_n C dX5_readCourt_76 0 rfl ?_
                  refine v_iload_n C dX5_readCourt_77 1 rfl ?_
                  refine v_bipush C 59 dX5_readCourt_78 (by decide) ?_
                  refine v_callMi C l_X5_123 (m_X5_isSign b S N (3 + 3 * j) n_fa n_tr n_mi n_ju n_co n_cr (tmF (cw n_ce S)) (nI j) 0 n_nw n_ov n_rl n_rd n_ce 59 hSN hR.1) (by decide) dX5_readCourt_80 [2, 3] [0, 1] (wr := [ia (b 20) cI 10 rJ1, ia (b 21) cI 15 n_rK]) (by decide) rfl rfl (by decide) (by decide) 2 rfl rfl rfl (rest := []) rfl (Nat.le_of_ble_eq_true rfl) (by decide) (fun r51 w49 h50 => ?_)
                  rcases h50 with ⟨sp52, sg52, rfl, rfl⟩ | ⟨sn52, rfl, rfl⟩
                  · refine v_ws0 [ia (b 20) cI 10 rJ1, ia (b 21) cI 15 n_rK, oN b n_fa n_tr n_mi n_ju n_co n_cr (nI (S + (3 + 3 * j) + 1)) (tmF (cw n_ce S)) (nI j) 0 n_nw n_ov n_rl n_rd, ia (b 4) cI 240 n_ce] rfl ?_
                    have hR59 : RS (cw n_ce S) N (3 + 3 * j + 1) := RS_go hR sp52 (by rw [hcf, go_j0]; have t : (cw n_ce S) (3 + 3 * j) = 59 := sg52; have u : 0 < j := (by omega); simp [t, u])
                    have hc59 : cfN (cw n_ce S) (3 + 3 * j + 1) = some (3 + 3 * j) := cfN_semi hcf sg52
                    refine v_if_eq C 94 dX5_readCourt_83 (by decide) (fun h => absurd h (by decide)) (fun _ => ?_)
                    refine v_aload_n C dX5_readCourt_86 0 rfl ?_
                    refine v_iload_n C dX5_readCourt_87 1 rfl ?_
                    refine v_callMi C l_X5_133 (m_X5_readOneCase b S N (3 + 3 * j + 1) 0 (3 + 3 * j) n_fa n_tr n_mi n_ju n_co n_cr (tmF (cw n_ce S)) (nI j) n_nw n_ov n_rl n_rd n_ce n_rK hSN hR59.1 (by omega) (by omega) rfl hR59 hc59) (by decide) dX5_readCourt_88 [2, 3, 1] [0] (wr := [ia (b 20) cI 10 rJ1]) (by decide) rfl rfl (by decide) (by decide) 2 rfl rfl rfl (rest := []) rfl (Nat.le_of_ble_eq_true rfl) (by decide) (fun r55 w53 h54 => ?_)
                    rcases h54 with ⟨rfl, hr56, hc56, rfl⟩ | ⟨rfl, pz56, rc56, rK56, hf56, rfl⟩
                    · refine v_ws0 [ia (b 20) cI 10 rJ1, oN b n_fa n_tr n_mi n_ju n_co n_cr (nI (S + (3 + 3 * j + 1 + 3))) (tmF (cw n_ce S)) (nI j) (nI (0 + 1)) n_nw n_ov n_rl n_rd, ia (b 4) cI 240 n_ce, ia (b 21) cI 15 (upd (upd (upd n_rK (3 * 0) (n_ce (S + (3 + 3 * j + 1)) - 48)) (3 * 0 + 1) (n_ce (S + (3 + 3 * j + 1) + 1) - 48)) (3 * 0 + 2) (n_ce (S + (3 + 3 * j + 1) + 2) - 48))] rfl ?_
                      refine v_if_ne C 96 dX5_readCourt_91 (by decide) (fun _ => ?_) (fun h => absurd h (by decide))
                      refine v_perm (ws' := [oN b n_fa n_tr n_mi n_ju n_co n_cr (nI (S + (3 + 3 * j + 1 + 3))) (tmF (cw n_ce S)) (nI j) (nI (0 + 1)) n_nw n_ov n_rl n_rd, ia (b 4) cI 240 n_ce, ia (b 20) cI 10 rJ1, ia (b 21) cI 15 (upd (upd (upd n_rK (3 * 0) (n_ce (S + (3 + 3 * j + 1)) - 48)) (3 * 0 + 1) (n_ce (S + (3 + 3 * j + 1) + 1) - 48)) (3 * 0 + 2) (n_ce (S + (3 + 3 * j + 1) + 2) - 48))]) [1, 2, 0, 3] (by decide) rfl ?_
                      refine v_ws0 [oN b n_fa n_tr n_mi n_ju n_co n_cr (nI (S + (3 + 3 * j + 4 * 1))) (tmF (cw n_ce S)) (nI j) (nI 1) n_nw n_ov n_rl n_rd, ia (b 4) cI 240 n_ce, ia (b 20) cI 10 rJ1, ia (b 21) cI 15 (upd (upd (upd n_rK (3 * 0) (n_ce (S + (3 + 3 * j + 1)) - 48)) (3 * 0 + 1) (n_ce (S + (3 + 3 * j + 1) + 1) - 48)) (3 * 0 + 2) (n_ce (S + (3 + 3 * j + 1) + 2) - 48))] rfl ?_
                      have lq : ∀ (n_58 : Nat) (e : Nat) (rK1 : Nat → Int32), 5 - e < n_58 → (1 ≤ e ∧ e ≤ 5) → (RS (cw n_ce S) N (3 + 3 * j + 4 * e)) → (cfN (cw n_ce S) (3 + 3 * j + 4 * e) = some (3 + 3 * j)) → (KR (cw n_ce S) (3 + 3 * j) e rK1) → V zp l ze (rmOf 3 68) zs zm [.ref (b 0), .int (nI (S + N))].toArray zb zt zc D (IM zA zs) (QMi zb [.ref (b 0), .int (nI (S + N))].toArray zs D cI cB cS [oN b n_fa n_tr n_mi n_ju n_co n_cr (nI (S + 0)) n_rm n_rj n_rc n_nw n_ov n_rl n_rd, ia (b 4) cI 240 n_ce, ia (b 20) cI 10 n_rJ, ia (b 21) cI 15 n_rK] zz (fun r w => (r = 1 ∧ ∃ (nj' nc' : Nat) (rJ' rK' : Nat → Int32), RdG (cw n_ce S) N nj' nc' rJ' rK' ∧ w = [oN b n_fa n_tr n_mi n_ju n_co n_cr (nI (S + N)) (tmF (cw n_ce S)) (nI nj') (nI nc') n_nw n_ov n_rl n_rd, ia (b 4) cI 240 n_ce, ia (b 20) cI 10 rJ', ia (b 21) cI 15 rK']) ∨ (r = 0 ∧ ∃ (pz : Nat) (rm' : Int32) (rj' : Int32) (rc' : Int32) (rJ' : Nat → Int32) (rK' : Nat → Int32), ffF (cw n_ce S) N = some pz ∧ w = [oN b n_fa n_tr n_mi n_ju n_co n_cr (nI (S + pz)) rm' rj' rc' n_nw n_ov n_rl n_rd, ia (b 4) cI 240 n_ce, ia (b 20) cI 10 rJ', ia (b 21) cI 15 rK']))) 0 0 2 [oN b n_fa n_tr n_mi n_ju n_co n_cr (nI (S + (3 + 3 * j + 4 * e))) (tmF (cw n_ce S)) (nI j) (nI e) n_nw n_ov n_rl n_rd, ia (b 4) cI 240 n_ce, ia (b 20) cI 10 rJ1, ia (b 21) cI 15 rK1] [(0, .ref (b 0)), (1, .int (nI (S + N)))] 96 [] := by
                        intro n_58
                        induction n_58 with
                        | zero => intro e rK1 b57; exact absurd b57 (by omega)
                        | succ n_58 ihn_58 =>
                          intro e rK1 b57 he hRe hce2 hK
                          refine v_aload_n C dX5_readCourt_96 0 rfl ?_
                          refine v_get C f_X5_114 dX5_readCourt_97 0 rfl rfl ?_
                          refine v_iconst C 5 dX5_readCourt_100 (by decide) ?_
                          refine v_icmp_ge C 124 dX5_readCourt_101 (by decide) (fun c59 => ?_) (fun c59 => ?_)
                          · have nc59 : 5 ≤ e := nI_leD c59 (by omega)
                            refine v_aload_n C dX5_readCourt_124 0 rfl ?_
                            refine v_get C f_X5_84 dX5_readCourt_125 0 rfl rfl ?_
                            refine v_iload_n C dX5_readCourt_128 1 rfl ?_
                            refine v_icmp_ne C 136 dX5_readCourt_129 (by decide) (fun c60 => ?_) (fun c60 => ?_)
                            · have nc60 : (S + (3 + 3 * j + 4 * e)) ≠ (S + N) := fun q => c60 (by rw [q])
                              refine v_iconst C 0 dX5_readCourt_136 (by decide) ?_
                              exact v_reti C hA dX5_readCourt_137 rfl (Or.inr ⟨rfl, _, _, _, _, _, _, RS_fault hRe (fun q => (fun t => absurd t.2 (by omega)) (go_59 (f := (cw n_ce S)) (F := 3 + 3 * j) (e := e) (by omega) (by have t := q.2; rw [hce2] at t; exact t))) (fun q => absurd q (by omega)), rfl⟩)
                            · have nc60 : (S + (3 + 3 * j + 4 * e)) = (S + N) := nI_eqP c60 (by omega) (by omega)
                              refine v_iconst C 1 dX5_readCourt_132 (by decide) ?_
                              refine v_goto C 137 dX5_readCourt_133 (by decide) ?_
                              exact v_reti C hA dX5_readCourt_137 rfl (Or.inl ⟨rfl, j, e, rJ1, rK1, RdG_of (by omega) hRe hce2 hj he hJ hK, by rw [show N = 3 + 3 * j + 4 * e by omega]⟩)
                          · have nc59 : e < 5 := nI_ltD c59 (by omega)
                            refine v_aload_n C dX5_readCourt_104 0 rfl ?_
                            refine v_iload_n C dX5_readCourt_105 1 rfl ?_
                            refine v_bipush C 59 dX5_readCourt_106 (by decide) ?_
                            refine v_callMi C l_X5_123 (m_X5_isSign b S N (3 + 3 * j + 4 * e) n_fa n_tr n_mi n_ju n_co n_cr (tmF (cw n_ce S)) (nI j) (nI e) n_nw n_ov n_rl n_rd n_ce 59 hSN hRe.1) (by decide) dX5_readCourt_108 [0, 1] [2, 3] (wr := [ia (b 20) cI 10 rJ1, ia (b 21) cI 15 rK1]) (by decide) rfl rfl (by decide) (by decide) 0 rfl rfl rfl (rest := []) rfl (Nat.le_of_ble_eq_true rfl) (by decide) (fun r63 w61 h62 => ?_)
                            rcases h62 with ⟨sp64, sg64, rfl, rfl⟩ | ⟨sn64, rfl, rfl⟩
                            · refine v_ws0 [ia (b 20) cI 10 rJ1, ia (b 21) cI 15 rK1, oN b n_fa n_tr n_mi n_ju n_co n_cr (nI (S + (3 + 3 * j + 4 * e) + 1)) (tmF (cw n_ce S)) (nI j) (nI e) n_nw n_ov n_rl n_rd, ia (b 4) cI 240 n_ce] rfl ?_
                              have hRk : RS (cw n_ce S) N (3 + 3 * j + 4 * e + 1) := RS_go hRe sp64 (by rw [hce2, go_cs (by omega)]; have t : (cw n_ce S) (3 + 3 * j + 4 * e) = 59 := sg64; have u : e < 5 := (by omega); simp [t, u])
                              have hck : cfN (cw n_ce S) (3 + 3 * j + 4 * e + 1) = some (3 + 3 * j) := cfN_some hce2
                              refine v_if_eq C 124 dX5_readCourt_111 (by decide) (fun h => absurd h (by decide)) (fun _ => ?_)
                              refine v_aload_n C dX5_readCourt_114 0 rfl ?_
                              refine v_iload_n C dX5_readCourt_115 1 rfl ?_
                              refine v_callMi C l_X5_133 (m_X5_readOneCase b S N (3 + 3 * j + 4 * e + 1) e (3 + 3 * j) n_fa n_tr n_mi n_ju n_co n_cr (tmF (cw n_ce S)) (nI j) n_nw n_ov n_rl n_rd n_ce rK1 hSN hRk.1 (by omega) (by omega) rfl hRk hck) (by decide) dX5_readCourt_116 [2, 3, 1] [0] (wr := [ia (b 20) cI 10 rJ1]) (by decide) rfl rfl (by decide) (by decide) 2 rfl rfl rfl (rest := []) rfl (Nat.le_of_ble_eq_true rfl) (by decide) (fun r67 w65 h66 => ?_)
                              rcases h66 with ⟨rfl, hr68, hc68, rfl⟩ | ⟨rfl, pz68, rc68, rK68, hf68, rfl⟩
                              · refine v_ws0 [ia (b 20) cI 10 rJ1, oN b n_fa n_tr n_mi n_ju n_co n_cr (nI (S + (3 + 3 * j + 4 * e + 1 + 3))) (tmF (cw n_ce S)) (nI j) (nI (e + 1)) n_nw n_ov n_rl n_rd, ia (b 4) cI 240 n_ce, ia (b 21) cI 15 (upd (upd (upd rK1 (3 * e) (n_ce (S + (3 + 3 * j + 4 * e + 1)) - 48)) (3 * e + 1) (n_ce (S + (3 + 3 * j + 4 * e + 1) + 1) - 48)) (3 * e + 2) (n_ce (S + (3 + 3 * j + 4 * e + 1) + 2) - 48))] rfl ?_
                                refine v_if_ne C 96 dX5_readCourt_119 (by decide) (fun _ => ?_) (fun h => absurd h (by decide))
                                refine v_perm (ws' := [oN b n_fa n_tr n_mi n_ju n_co n_cr (nI (S + (3 + 3 * j + 4 * e + 1 + 3))) (tmF (cw n_ce S)) (nI j) (nI (e + 1)) n_nw n_ov n_rl n_rd, ia (b 4) cI 240 n_ce, ia (b 20) cI 10 rJ1, ia (b 21) cI 15 (upd (upd (upd rK1 (3 * e) (n_ce (S + (3 + 3 * j + 4 * e + 1)) - 48)) (3 * e + 1) (n_ce (S + (3 + 3 * j + 4 * e + 1) + 1) - 48)) (3 * e + 2) (n_ce (S + (3 + 3 * j + 4 * e + 1) + 2) - 48))]) [1, 2, 0, 3] (by decide) rfl ?_
                                refine v_ws0 [oN b n_fa n_tr n_mi n_ju n_co n_cr (nI (S + (3 + 3 * j + 4 * (e + 1)))) (tmF (cw n_ce S)) (nI j) (nI (e + 1)) n_nw n_ov n_rl n_rd, ia (b 4) cI 240 n_ce, ia (b 20) cI 10 rJ1, ia (b 21) cI 15 (upd (upd (upd rK1 (3 * e) (n_ce (S + (3 + 3 * j + 4 * e + 1)) - 48)) (3 * e + 1) (n_ce (S + (3 + 3 * j + 4 * e + 1) + 1) - 48)) (3 * e + 2) (n_ce (S + (3 + 3 * j + 4 * e + 1) + 2) - 48))] (by rw [show 3 + 3 * j + 4 * e + 1 + 3 = 3 + 3 * j + 4 * (e + 1) by omega]) ?_
                                exact ihn_58 (e + 1) (upd (upd (upd rK1 (3 * e) (n_ce (S + (3 + 3 * j + 4 * e + 1)) - 48)) (3 * e + 1) (n_ce (S + (3 + 3 * j + 4 * e + 1) + 1) - 48)) (3 * e + 2) (n_ce (S + (3 + 3 * j + 4 * e + 1) + 2) - 48)) (by omega) (by omega) (by have t := hr68; rw [show 3 + 3 * j + 4 * e + 1 + 3 = 3 + 3 * j + 4 * (e + 1) by omega] at t; exact t) (by have t := hc68; rw [show 3 + 3 * j + 4 * e + 1 + 3 = 3 + 3 * j + 4 * (e + 1) by omega] at t; exact t) (KR_s hK)
                              · refine v_ws0 [ia (b 20) cI 10 rJ1, oN b n_fa n_tr n_mi n_ju n_co n_cr (nI (S + pz68)) (tmF (cw n_ce S)) (nI j) rc68 n_nw n_ov n_rl n_rd, ia (b 4) cI 240 n_ce, ia (b 21) cI 15 rK68] rfl ?_
                                refine v_if_ne C 96 dX5_readCourt_119 (by decide) (fun h => absurd h (by decide)) (fun _ => ?_)
                                refine v_iconst C 0 dX5_readCourt_122 (by decide) ?_
                                refine v_perm (ws' := [oN b n_fa n_tr n_mi n_ju n_co n_cr (nI (S + pz68)) (tmF (cw n_ce S)) (nI j) rc68 n_nw n_ov n_rl n_rd, ia (b 4) cI 240 n_ce, ia (b 20) cI 10 rJ1, ia (b 21) cI 15 rK68]) [1, 2, 0, 3] (by decide) rfl ?_
                                exact v_reti C hA dX5_readCourt_123 rfl (Or.inr ⟨rfl, _, _, _, _, _, _, hf68, rfl⟩)
                            · refine v_ws0 [ia (b 20) cI 10 rJ1, ia (b 21) cI 15 rK1, oN b n_fa n_tr n_mi n_ju n_co n_cr (nI (S + (3 + 3 * j + 4 * e))) (tmF (cw n_ce S)) (nI j) (nI e) n_nw n_ov n_rl n_rd, ia (b 4) cI 240 n_ce] rfl ?_
                              refine v_if_eq C 124 dX5_readCourt_111 (by decide) (fun _ => ?_) (fun h => absurd h (by decide))
                              refine v_aload_n C dX5_readCourt_124 0 rfl ?_
                              refine v_get C f_X5_84 dX5_readCourt_125 2 rfl rfl ?_
                              refine v_iload_n C dX5_readCourt_128 1 rfl ?_
                              refine v_icmp_ne C 136 dX5_readCourt_129 (by decide) (fun c69 => ?_) (fun c69 => ?_)
                              · have nc69 : (S + (3 + 3 * j + 4 * e)) ≠ (S + N) := fun q => c69 (by rw [q])
                                refine v_iconst C 0 dX5_readCourt_136 (by decide) ?_
                                refine v_perm (ws' := [oN b n_fa n_tr n_mi n_ju n_co n_cr (nI (S + (3 + 3 * j + 4 * e))) (tmF (cw n_ce S)) (nI j) (nI e) n_nw n_ov n_rl n_rd, ia (b 4) cI 240 n_ce, ia (b 20) cI 10 rJ1, ia (b 21) cI 15 rK1]) [2, 3, 0, 1] (by decide) rfl ?_
                                exact v_reti C hA dX5_readCourt_137 rfl (Or.inr ⟨rfl, _, _, _, _, _, _, RS_fault hRe (fun q => (fun t => sn64 ⟨q.1, t.1⟩) (go_59 (f := (cw n_ce S)) (F := 3 + 3 * j) (e := e) (by omega) (by have t := q.2; rw [hce2] at t; exact t))) (fun q => absurd q (by omega)), rfl⟩)
                              · have nc69 : (S + (3 + 3 * j + 4 * e)) = (S + N) := nI_eqP c69 (by omega) (by omega)
                                refine v_iconst C 1 dX5_readCourt_132 (by decide) ?_
                                refine v_goto C 137 dX5_readCourt_133 (by decide) ?_
                                refine v_perm (ws' := [oN b n_fa n_tr n_mi n_ju n_co n_cr (nI (S + (3 + 3 * j + 4 * e))) (tmF (cw n_ce S)) (nI j) (nI e) n_nw n_ov n_rl n_rd, ia (b 4) cI 240 n_ce, ia (b 20) cI 10 rJ1, ia (b 21) cI 15 rK1]) [2, 3, 0, 1] (by decide) rfl ?_
                                exact v_reti C hA dX5_readCourt_137 rfl (Or.inl ⟨rfl, j, e, rJ1, rK1, RdG_of (by omega) hRe hce2 hj he hJ hK, by rw [show N = 3 + 3 * j + 4 * e by omega]⟩)
                      exact lq (5 - 1 + 1) 1 (upd (upd (upd n_rK (3 * 0) (n_ce (S + (3 + 3 * j + 1)) - 48)) (3 * 0 + 1) (n_ce (S + (3 + 3 * j + 1) + 1) - 48)) (3 * 0 + 2) (n_ce (S + (3 + 3 * j + 1) + 2) - 48)) (by omega) (by omega) hr56 hc56 (KR_s (e := 0) (KR_0 _ _ _))
                    · refine v_ws0 [ia (b 20) cI 10 rJ1, oN b n_fa n_tr n_mi n_ju n_co n_cr (nI (S + pz56)) (tmF (cw n_ce S)) (nI j) rc56 n_nw n_ov n_rl n_rd, ia (b 4) cI 240 n_ce, ia (b 21) cI 15 rK56] rfl ?_
                      refine v_if_ne C 96 dX5_readCourt_91 (by decide) (fun h => absurd h (by decide)) (fun _ => ?_)
                      refine v_iconst C 0 dX5_readCourt_94 (by decide) ?_
                      refine v_perm (ws' := [oN b n_fa n_tr n_mi n_ju n_co n_cr (nI (S + pz56)) (tmF (cw n_ce S)) (nI j) rc56 n_nw n_ov n_rl n_rd, ia (b 4) cI 240 n_ce, ia (b 20) cI 10 rJ1, ia (b 21) cI 15 rK56]) [1, 2, 0, 3] (by decide) rfl ?_
                      exact v_reti C hA dX5_readCourt_95 rfl (Or.inr ⟨rfl, _, _, _, _, _, _, hf56, rfl⟩)
                  · refine v_ws0 [ia (b 20) cI 10 rJ1, ia (b 21) cI 15 n_rK, oN b n_fa n_tr n_mi n_ju n_co n_cr (nI (S + (3 + 3 * j))) (tmF (cw n_ce S)) (nI j) 0 n_nw n_ov n_rl n_rd, ia (b 4) cI 240 n_ce] rfl ?_
                    refine v_if_eq C 94 dX5_readCourt_83 (by decide) (fun _ => ?_) (fun h => absurd h (by decide))
                    refine v_iconst C 0 dX5_readCourt_94 (by decide) ?_
                    refine v_perm (ws' := [oN b n_fa n_tr n_mi n_ju n_co n_cr (nI (S + (3 + 3 * j))) (tmF (cw n_ce S)) (nI j) 0 n_nw n_ov n_rl n_rd, ia (b 4) cI 240 n_ce, ia (b 20) cI 10 rJ1, ia (b 21) cI 15 n_rK]) [2, 3, 0, 1] (by decide) rfl ?_
                    exact v_reti C hA dX5_readCourt_95 rfl (Or.inr ⟨rfl, 3 + 3 * j, _, _, _, _, _, RS_fault hR (fun q => (go_jn (by have t := q.2; rw [hcf] at t; exact t)).elim (fun t => sn44 ⟨q.1, t.1⟩) (fun t => sn52 ⟨q.1, t.1⟩)) (fun q => wh_none hcf q), rfl⟩)
          exact lp (5 - 1 + 1) 1 (upd (upd n_rJ (2 * 0) (kdF (n_ce (S + 4)))) (2 * 0 + 1) (n_ce (S + 4 + 1) - 48)) (by omega) (by omega) hr16 hc16 (JR_s (j := 0) (JR_0 _ _))
        · refine v_ws0 [ia (b 21) cI 15 n_rK, oN b n_fa n_tr n_mi n_ju n_co n_cr (nI (S + pz16)) (tmF (cw n_ce S)) rj16 0 n_nw n_ov n_rl n_rd, ia (b 4) cI 240 n_ce, ia (b 20) cI 10 rJ16] rfl ?_
          refine v_if_ne C 48 dX5_readCourt_43 (by decide) (fun h => absurd h (by decide)) (fun _ => ?_)
          refine v_iconst C 0 dX5_readCourt_46 (by decide) ?_
          refine v_perm (ws' := [oN b n_fa n_tr n_mi n_ju n_co n_cr (nI (S + pz16)) (tmF (cw n_ce S)) rj16 0 n_nw n_ov n_rl n_rd, ia (b 4) cI 240 n_ce, ia (b 20) cI 10 rJ16, ia (b 21) cI 15 n_rK]) [1, 2, 3, 0] (by decide) rfl ?_
          exact v_reti C hA dX5_readCourt_47 rfl (Or.inr ⟨rfl, _, _, _, _, _, _, hf16, rfl⟩)
      · refine v_ws0 [ia (b 20) cI 10 n_rJ, ia (b 21) cI 15 n_rK, oN b n_fa n_tr n_mi n_ju n_co n_cr (nI (S + 3)) (tmF (cw n_ce S)) 0 0 n_nw n_ov n_rl n_rd, ia (b 4) cI 240 n_ce] rfl ?_
        refine v_if_eq C 46 dX5_readCourt_35 (by decide) (fun _ => ?_) (fun h => absurd h (by decide))
        refine v_iconst C 0 dX5_readCourt_46 (by decide) ?_
        refine v_perm (ws' := [oN b n_fa n_tr n_mi n_ju n_co n_cr (nI (S + 3)) (tmF (cw n_ce S)) 0 0 n_nw n_ov n_rl n_rd, ia (b 4) cI 240 n_ce, ia (b 20) cI 10 n_rJ, ia (b 21) cI 15 n_rK]) [2, 3, 0, 1] (by decide) rfl ?_
        exact v_reti C hA dX5_readCourt_47 rfl (Or.inr ⟨rfl, 3, _, _, _, _, _, RS_fault hr8 (fun q => sn12 ⟨q.1, go_44 (by have t := q.2; rw [hc8] at t; exact t)⟩) (fun q => wh_none hc8 q), rfl⟩)
    · refine v_ws0 [ia (b 20) cI 10 n_rJ, ia (b 21) cI 15 n_rK, oN b n_fa n_tr n_mi n_ju n_co n_cr (nI (S + pz8)) rm8 0 0 n_nw n_ov n_rl n_rd, ia (b 4) cI 240 n_ce] rfl ?_
      refine v_if_eq C 46 dX5_readCourt_25 (by decide) (fun _ => ?_) (fun h => absurd h (by decide))
      refine v_iconst C 0 dX5_readCourt_46 (by decide) ?_
      refine v_perm (ws' := [oN b n_fa n_tr n_mi n_ju n_co n_cr (nI (S + pz8)) rm8 0 0 n_nw n_ov n_rl n_rd, ia (b 4) cI 240 n_ce, ia (b 20) cI 10 n_rJ, ia (b 21) cI 15 n_rK]) [2, 3, 0, 1] (by decide) rfl ?_
      exact v_reti C hA dX5_readCourt_47 rfl (Or.inr ⟨rfl, _, _, _, _, _, _, hf8, rfl⟩)
  · refine v_ws0 [ia (b 20) cI 10 n_rJ, ia (b 21) cI 15 n_rK, oN b n_fa n_tr n_mi n_ju n_co n_cr (nI (S + 0)) n_rm 0 0 n_nw n_ov n_rl n_rd, ia (b 4) cI 240 n_ce] rfl ?_
    refine v_if_eq C 46 dX5_readCourt_17 (by decide) (fun _ => ?_) (fun h => absurd h (by decide))
    refine v_iconst C 0 dX5_readCourt_46 (by decide) ?_
    refine v_perm (ws' := [oN b n_fa n_tr n_mi n_ju n_co n_cr (nI (S + 0)) n_rm 0 0 n_nw n_ov n_rl n_rd, ia (b 4) cI 240 n_ce, ia (b 20) cI 10 n_rJ, ia (b 21) cI 15 n_rK]) [2, 3, 0, 1] (by decide) rfl ?_
    exact v_reti C hA dX5_readCourt_47 rfl (Or.inr ⟨rfl, 0, _, _, _, _, _, RS_fault RS_0 (fun q => sn4 ⟨q.1, by have t := q.2; rw [go_0] at t; exact of_decide_eq_true t⟩) (fun q => wh_none (p := 0) rfl q), rfl⟩)
