theorem x_01 {x : Int32} (h : ¬ x < 0 ∧ x ≤ 1) : x = 0 ∨ x = 1 := by
  by_cases e : x = 0
  · exact Or.inl e
  · exact Or.inr (x01 h e)
theorem wh_no {x : Int32} (h : ¬ x < 0 ∧ x ≤ 1) : ¬ (¬ x < 10 ∧ ¬ 15 ≤ x) := by
  rcases x_01 h with rfl | rfl <;> decide
theorem wib_14 (x : Int32) : wib x 10 14 = true ↔ ¬ x < 10 ∧ ¬ 15 ≤ x := by
  rw [wib_iff]
  refine and_congr Iff.rfl ?_
  exact (le_lt1 x 14 (by omega)).trans Int32.not_le.symm
theorem odS_has {f : Nat → Int32} {nc : Nat} (hn : nc ≤ 5) : ∀ {n m : Nat}, odS f nc n = some m → m < 2 ^ nc ∧ ∀ p, p < n → m.testBit (zN (f p)) = true
  | 0, m, h => by
    rw [odS] at h
    cases h
    exact ⟨Nat.two_pow_pos nc, fun p hp => absurd hp (by omega)⟩
  | n + 1, m, h => by
    rw [odS] at h
    cases hq : odS f nc n with
    | none => rw [hq] at h; cases h
    | some m0 =>
      rw [hq] at h
      dsimp only at h
      split at h
      · rename_i hc
        cases h
        obtain ⟨h1, h2⟩ := odS_has hn hq
        obtain ⟨j, hj, hje⟩ := ix_of' (by omega) hc.1
        have hz : (f n).toNatClampNeg = j := by rw [hje]; exact nI_clamp (by omega)
        have hz' : zN (f n) = j := hz
        have h32 := pow5 hn
        refine ⟨by rw [hz]; exact set1_lt nc (by omega) m0 h1 j hj, fun p hp => ?_⟩
        rw [hz]
        have hb : ∀ i, i < 6 → (set1 m0 j).testBit i = (m0.testBit i || decide (i = j)) := fun i hi => set1_bit m0 (by omega) j (by omega) i hi
        by_cases e : p = n
        · subst e
          rw [hz', hb j (by omega)]
          simp
        · have hp' := odS_ok hn hq p (by omega)
          rw [hb _ (by omega), h2 p (by omega)]
          rfl
      · cases h
theorem odS_inj {f : Nat → Int32} {nc : Nat} (hn : nc ≤ 5) : ∀ {n m : Nat}, odS f nc n = some m → ∀ p q, p < n → q < n → zN (f p) = zN (f q) → p = q
  | 0, _, _, p, _, hp, _, _ => absurd hp (by omega)
  | n + 1, m, h, p, q, hp, hq, e => by
    rw [odS] at h
    cases hk : odS f nc n with
    | none => rw [hk] at h; cases h
    | some m0 =>
      rw [hk] at h
      dsimp only at h
      split at h
      · rename_i hc
        have h2 := (odS_has hn hk).2
        by_cases ep : p = n
        · by_cases eq : q = n
          · omega
          · have := h2 q (by omega)
            rw [← e, ep] at this
            exact absurd this hc.2
        · by_cases eq : q = n
          · have := h2 p (by omega)
            rw [e, eq] at this
            exact absurd this hc.2
          · exact odS_inj hn hk p q (by omega) (by omega) e
      · cases h
theorem ag_foc {hs sl x i n : Int32} {g : Nat} (h : ¬ hs = 0 → ¬ sl = -9) : agF (soF hs sl) (nI g) x i n = focF hs sl (nI g) x i n := by
  unfold agF focF folF soF
  by_cases e : hs = 0
  · simp [e]
  · have h9 := h e
    simp only [e, if_false, h9, not_false_eq_true, true_and]
    by_cases ex : sl = x
    · simp only [ex, not_true_eq_false, if_false, if_true]
      by_cases en : 0 ≤ n
      · simp only [en, if_true]
        have hi : (hcb (nI g) i n = true) ↔ ¬ (i < 0 ∨ nI g < i ∨ ¬ n ≤ nI g - i) := by
          rw [hcb_iff]
          constructor
          · rintro ⟨a, b, c, d⟩ q
            exact q.elim a (fun q => q.elim c (fun q => q (Int32.not_lt.mp d)))
          · intro q
            refine ⟨fun z => q (Or.inl z), Int32.not_lt.mpr en, fun z => q (Or.inr (Or.inl z)), fun z => q (Or.inr (Or.inr (Int32.not_le.mpr z)))⟩
        by_cases eh : hcb (nI g) i n = true
        · rw [if_pos eh, if_neg (hi.mp eh)]
        · rw [if_neg eh, if_pos (Classical.not_not.mp (fun q => eh (hi.mpr q)))]
      · simp [en]
    · simp [ex]
set_option maxHeartbeats 4000000 in
set_option maxRecDepth 100000 in
theorem m_X5_layRow {l : Launch} {D : va_G} {cI cB cS : ClassId} (b : Nat → Nat) (k g : Nat) (hs sl : Int32) (nc : Nat) (sc : Nat → Int32) (n_fa : Int32) (n_tr : Int32) (n_mi : Int32) (n_ju : Int32) (n_cr : Int32) (n_at : Int32) (n_rm : Int32) (n_rj : Int32) (n_rc : Int32) (n_nw : Int32) (n_ov : Int32) (n_rl : Int32) (n_rd : Int32) (n_so : Nat → Int32) (n_sl : Nat → Int32) (n_ce : Nat → Int32) (n_rw : Nat → Int32) (x : Int32) (i : Int32) (n : Int32) (hnc : nc ≤ 5) (hp5n : 2 ^ nc ≤ 32) (hk : k < 4) (hg : g ≤ 60) (hso : n_so k = soF hs sl) (hsn : n_sl k = nI g) (hlv : ¬ hs = 0 → ¬ sl = -9) (hce : ∀ i, i < 60 → n_ce (60 * k + i) = sc i) : Mi l yX5_layRow cX5_layRow 10 (some .int) 1 24 D cI cB cS [.ref (b 0), .int (nI k), .int x, .int i, .int n] [oN b n_fa n_tr n_mi n_ju (nI nc) n_cr n_at n_rm n_rj n_rc n_nw n_ov n_rl n_rd, ia (b 2) cI 4 n_so, ia (b 3) cI 4 n_sl, ia (b 4) cI 240 n_ce, ia (b 28) cI 5 n_rw] (fun r w => (¬ focF hs sl (nI g) x i n = 0 ∧ r = (-10) - focF hs sl (nI g) x i n ∧ w = [oN b (focF hs sl (nI g) x i n) n_tr n_mi n_ju (nI nc) n_cr n_at n_rm n_rj n_rc n_nw n_ov n_rl n_rd, ia (b 2) cI 4 n_so, ia (b 3) cI 4 n_sl, ia (b 4) cI 240 n_ce, ia (b 28) cI 5 n_rw]) ∨ (focF hs sl (nI g) x i n = 0 ∧ nI nc ≤ 0 ∧ r = -3 ∧ w = [oN b n_fa n_tr n_mi n_ju (nI nc) n_cr n_at n_rm n_rj n_rc n_nw n_ov n_rl n_rd, ia (b 2) cI 4 n_so, ia (b 3) cI 4 n_sl, ia (b 4) cI 240 n_ce, ia (b 28) cI 5 n_rw]) ∨ (focF hs sl (nI g) x i n = 0 ∧ ¬ nI nc ≤ 0 ∧ odS (fun qx => sc (i.toNatClampNeg + qx)) nc n.toNatClampNeg = none ∧ r = -1 ∧ ∃ rw' : Nat → Int32, w = [oN b n_fa n_tr n_mi n_ju (nI nc) n_cr n_at n_rm n_rj n_rc n_nw n_ov n_rl n_rd, ia (b 2) cI 4 n_so, ia (b 3) cI 4 n_sl, ia (b 4) cI 240 n_ce, ia (b 28) cI 5 rw']) ∨ (focF hs sl (nI g) x i n = 0 ∧ ¬ nI nc ≤ 0 ∧ r = 0 ∧ ∃ (mz : Nat) (rw' : Nat → Int32), odS (fun qx => sc (i.toNatClampNeg + qx)) nc n.toNatClampNeg = some mz ∧ n.toNatClampNeg ≤ 5 ∧ w = [oN b n_fa n_tr n_mi n_ju (nI nc) n_cr n_at n_rm n_rj n_rc n_nw n_ov (nI (n.toNatClampNeg)) n_rd, ia (b 2) cI 4 n_so, ia (b 3) cI 4 n_sl, ia (b 4) cI 240 n_ce, ia (b 28) cI 5 rw'] ∧ ∀ q, q < n.toNatClampNeg → rw' q = (fun qx => sc (i.toNatClampNeg + qx)) q)) := by
  refine Mi.of (by decide) (Nat.le_of_ble_eq_true rfl) ?_
  intro zp ze zs zm zb zt zc zz zA hA C hnm
  refine v_lv0 [(0, .ref (b 0)), (1, .int (nI k)), (2, .int x), (3, .int i), (4, .int n)] rfl ?_
  refine v_aload_n C dX5_layRow_0 0 rfl ?_
  refine v_iload_n C dX5_layRow_1 1 rfl ?_
  refine v_iload_n C dX5_layRow_2 2 rfl ?_
  refine v_iload_n C dX5_layRow_3 3 rfl ?_
  refine v_iload C dX5_layRow_4 4 rfl ?_
  refine v_callRi C l_X5_94 (m_X5_against b k n_fa n_tr n_mi n_ju (nI nc) n_cr n_at n_rm n_rj n_rc n_nw n_ov n_rl n_rd n_so n_sl x i n hk) (by decide) dX5_layRow_6 [0, 1, 2] rfl 0 rfl rfl rfl (rest := []) rfl (Nat.le_of_ble_eq_true rfl) (by decide) (fun r1 h2 => ?_)
  subst h2
  refine v_eqi (focF hs sl (nI g) x i n) (by rw [hso, hsn, ag_foc hlv]) ?_
  refine v_istore C [(5, .int (focF hs sl (nI g) x i n)), (0, .ref (b 0)), (1, .int (nI k)), (2, .int x), (3, .int i), (4, .int n)] dX5_layRow_9 (by decide) rfl ?_
  refine v_iload C dX5_layRow_11 0 rfl ?_
  refine v_if_eq C 23 dX5_layRow_13 (by decide) (fun c3 => ?_) (fun c3 => ?_)
  · refine v_aload_n C dX5_layRow_23 1 rfl ?_
    refine v_get C f_X5_81 dX5_layRow_24 0 rfl rfl ?_
    refine v_if_ne C 33 dX5_layRow_27 (by decide) (fun c4 => ?_) (fun c4 => ?_)
    · have nc4 : nc ≠ 0 := fun q => c4 (by rw [q] <;> rfl)
      have zc5 : ¬ nI nc ≤ 0 := by rw [nc0 hnc]; exact nc4
      have hnc1 : 1 ≤ nc := by omega
      obtain ⟨iN, nN, hi_, hn_, hlt⟩ := foc_0 hg c3
      subst hi_
      subst hn_
      have ei : (nI iN).toNatClampNeg = iN := nI_clamp (by omega)
      have en' : (nI nN).toNatClampNeg = nN := nI_clamp (by omega)
      refine v_bipush C 60 dX5_layRow_33 (by decide) ?_
      refine v_iload_n C dX5_layRow_35 2 rfl ?_
      refine v_imul C dX5_layRow_36 ?_
      refine v_eqi (nI (60 * k)) (pk_mul 60 k) ?_
      refine v_iload_n C dX5_layRow_37 4 rfl ?_
      refine v_iadd C dX5_layRow_38 ?_
      refine v_eqi (nI (60 * k + iN)) (nI_add _ _) ?_
      refine v_istore C [(6, .int (nI (60 * k + iN))), (5, .int (focF hs sl (nI g) x (nI iN) (nI nN))), (0, .ref (b 0)), (1, .int (nI k)), (2, .int x), (3, .int (nI iN)), (4, .int (nI nN))] dX5_layRow_39 (by decide) rfl ?_
      refine v_iconst C 0 dX5_layRow_41 (by decide) ?_
      refine v_istore C [(7, .int 0), (6, .int (nI (60 * k + iN))), (5, .int (focF hs sl (nI g) x (nI iN) (nI nN))), (0, .ref (b 0)), (1, .int (nI k)), (2, .int x), (3, .int (nI iN)), (4, .int (nI nN))] dX5_layRow_42 (by decide) rfl ?_
      refine v_iconst C 0 dX5_layRow_44 (by decide) ?_
      refine v_istore C [(8, .int 0), (7, .int 0), (6, .int (nI (60 * k + iN))), (5, .int (focF hs sl (nI g) x (nI iN) (nI nN))), (0, .ref (b 0)), (1, .int (nI k)), (2, .int x), (3, .int (nI iN)), (4, .int (nI nN))] dX5_layRow_45 (by decide) rfl ?_
      have lp : ∀ (n_7 : Nat) (p : Nat) (m : Nat) (rw1 : Nat → Int32), nN - p < n_7 → (p ≤ nN) → (odS (fun qx => sc (iN + qx)) nc p = some m) → (m < 2 ^ nc) → (pcN m = p) → (∀ q, q < p → rw1 q = (fun qx => sc (iN + qx)) q) → V zp l ze (rmOf 1 24) zs zm [.ref (b 0), .int (nI k), .int x, .int (nI iN), .int (nI nN)].toArray zb zt zc D (IM zA zs) (QMi zb [.ref (b 0), .int (nI k), .int x, .int (nI iN), .int (nI nN)].toArray zs D cI cB cS [oN b n_fa n_tr n_mi n_ju (nI nc) n_cr n_at n_rm n_rj n_rc n_nw n_ov n_rl n_rd, ia (b 2) cI 4 n_so, ia (b 3) cI 4 n_sl, ia (b 4) cI 240 n_ce, ia (b 28) cI 5 n_rw] zz (fun r w => (¬ focF hs sl (nI g) x (nI iN) (nI nN) = 0 ∧ r = (-10) - focF hs sl (nI g) x (nI iN) (nI nN) ∧ w = [oN b (focF hs sl (nI g) x (nI iN) (nI nN)) n_tr n_mi n_ju (nI nc) n_cr n_at n_rm n_rj n_rc n_nw n_ov n_rl n_rd, ia (b 2) cI 4 n_so, ia (b 3) cI 4 n_sl, ia (b 4) cI 240 n_ce, ia (b 28) cI 5 n_rw]) ∨ (focF hs sl (nI g) x (nI iN) (nI nN) = 0 ∧ nI nc ≤ 0 ∧ r = -3 ∧ w = [oN b n_fa n_tr n_mi n_ju (nI nc) n_cr n_at n_rm n_rj n_rc n_nw n_ov n_rl n_rd, ia (b 2) cI 4 n_so, ia (b 3) cI 4 n_sl, ia (b 4) cI 240 n_ce, ia (b 28) cI 5 n_rw]) ∨ (focF hs sl (nI g) x (nI iN) (nI nN) = 0 ∧ ¬ nI nc ≤ 0 ∧ odS (fun qx => sc ((nI iN).toNatClampNeg + qx)) nc (nI nN).toNatClampNeg = none ∧ r = -1 ∧ ∃ rw' : Nat → Int32, w = [oN b n_fa n_tr n_mi n_ju (nI nc) n_cr n_at n_rm n_rj n_rc n_nw n_ov n_rl n_rd, ia (b 2) cI 4 n_so, ia (b 3) cI 4 n_sl, ia (b 4) cI 240 n_ce, ia (b 28) cI 5 rw']) ∨ (focF hs sl (nI g) x (nI iN) (nI nN) = 0 ∧ ¬ nI nc ≤ 0 ∧ r = 0 ∧ ∃ (mz : Nat) (rw' : Nat → Int32), odS (fun qx => sc ((nI iN).toNatClampNeg + qx)) nc (nI nN).toNatClampNeg = some mz ∧ (nI nN).toNatClampNeg ≤ 5 ∧ w = [oN b n_fa n_tr n_mi n_ju (nI nc) n_cr n_at n_rm n_rj n_rc n_nw n_ov (nI ((nI nN).toNatClampNeg)) n_rd, ia (b 2) cI 4 n_so, ia (b 3) cI 4 n_sl, ia (b 4) cI 240 n_ce, ia (b 28) cI 5 rw'] ∧ ∀ q, q < (nI nN).toNatClampNeg → rw' q = (fun qx => sc ((nI iN).toNatClampNeg + qx)) q))) 0 0 10 [oN b n_fa n_tr n_mi n_ju (nI nc) n_cr n_at n_rm n_rj n_rc n_nw n_ov n_rl n_rd, ia (b 2) cI 4 n_so, ia (b 3) cI 4 n_sl, ia (b 4) cI 240 n_ce, ia (b 28) cI 5 rw1] [(8, .int (nI p)), (7, .int (nI m)), (6, .int (nI (60 * k + iN))), (0, .ref (b 0)), (1, .int (nI k)), (2, .int x), (3, .int (nI iN)), (4, .int (nI nN))] 47 [] := by
        intro n_7
        induction n_7 with
        | zero => intro p m rw1 b6; exact absurd b6 (by omega)
        | succ n_7 ihn_7 =>
          intro p m rw1 b6 hp hod hm hpc0 hof
          refine v_iload C dX5_layRow_47 0 rfl ?_
          refine v_iload C dX5_layRow_49 7 rfl ?_
          refine v_icmp_ge C 112 dX5_layRow_51 (by decide) (fun c8 => ?_) (fun c8 => ?_)
          · have nc8 : nN ≤ p := nI_leD c8 (by omega)
            have hpe : p = nN := by omega
            refine v_aload_n C dX5_layRow_112 3 rfl ?_
            refine v_iload C dX5_layRow_113 7 rfl ?_
            refine v_put C p_X5_166 [oN b n_fa n_tr n_mi n_ju (nI nc) n_cr n_at n_rm n_rj n_rc n_nw n_ov (nI nN) n_rd, ia (b 2) cI 4 n_so, ia (b 3) cI 4 n_sl, ia (b 4) cI 240 n_ce, ia (b 28) cI 5 rw1] dX5_layRow_115 0 rfl rfl rfl (Nat.le_of_ble_eq_true rfl) rfl ?_
            refine v_iconst C 0 dX5_layRow_118 (by decide) ?_
            exact v_reti C hA dX5_layRow_119 rfl (Or.inr (Or.inr (Or.inr ⟨c3, zc5, rfl, m, rw1, by rw [ei, en', ← hpe]; exact hod, by have := pc_le nc (by omega) m hm; rw [en']; omega, by rw [en'], by rw [ei, en', ← hpe]; exact hof⟩)))
          · have nc8 : p < nN := nI_ltD c8 (by omega)
            refine v_aload_n C dX5_layRow_54 3 rfl ?_
            refine v_get C f_X5_16 dX5_layRow_55 0 rfl rfl ?_
            refine v_iload C dX5_layRow_58 2 rfl ?_
            refine v_iload C dX5_layRow_60 0 rfl ?_
            refine v_iadd C dX5_layRow_62 ?_
            refine v_eqi (nI (60 * k + iN + p)) (nI_add _ _) ?_
            refine v_ialdN C dX5_layRow_63 3 rfl (60 * k + iN + p) rfl (by omega) (by decide) ?_
            refine v_eqi (sc (iN + p)) (by rw [Nat.add_assoc]; exact hce (iN + p) (by omega)) ?_
            refine v_istore C [(9, .int (sc (iN + p))), (8, .int (nI p)), (7, .int (nI m)), (6, .int (nI (60 * k + iN))), (0, .ref (b 0)), (1, .int (nI k)), (2, .int x), (3, .int (nI iN)), (4, .int (nI nN))] dX5_layRow_64 (by decide) rfl ?_
            refine v_aload_n C dX5_layRow_66 4 rfl ?_
            refine v_iload C dX5_layRow_67 0 rfl ?_
            refine v_callRi C l_X5_143 (m_X5_isCase b n_fa n_tr n_mi n_ju (nI nc) n_cr n_at n_rm n_rj n_rc n_nw n_ov n_rl n_rd (sc (iN + p))) (by decide) dX5_layRow_69 [0] rfl 0 rfl rfl rfl (rest := []) rfl (Nat.le_of_ble_eq_true rfl) (by decide) (fun r9 h10 => ?_)
            subst h10
            by_cases c11 : ¬ (sc (iN + p)) < 0 ∧ ¬ (nI nc) ≤ (sc (iN + p))
            · refine v_eqi 1 (bI_t c11) ?_
              refine v_if_eq C 86 dX5_layRow_72 (by decide) (fun h => absurd h (by decide)) (fun _ => ?_)
              obtain ⟨c, hcn, hcc⟩ := ix_of' (by omega) c11
              refine v_lv0 [(9, .int (nI c)), (8, .int (nI p)), (7, .int (nI m)), (6, .int (nI (60 * k + iN))), (0, .ref (b 0)), (1, .int (nI k)), (2, .int x), (3, .int (nI iN)), (4, .int (nI nN))] (by rw [hcc]) ?_
              refine v_iload C dX5_layRow_75 2 rfl ?_
              refine v_iload C dX5_layRow_77 0 rfl ?_
              refine v_ishr C dX5_layRow_79 ?_
              refine v_iconst C 1 dX5_layRow_80 (by decide) ?_
              refine v_iand C dX5_layRow_81 ?_
              refine v_eqi (bA m c) (raw_bit m (by omega) c (by omega)) ?_
              refine v_iconst C 1 dX5_layRow_82 (by decide) ?_
              refine v_icmp_ne C 88 dX5_layRow_83 (by decide) (fun c12 => ?_) (fun c12 => ?_)
              · have hbt : ¬ m.testBit c = true := by have q := bA_n1 c12; rw [bA_0.mp q]; decide
                have hpc := pc_set nc (by omega) m hm c hcn (by simpa using hbt)
                refine v_iload C dX5_layRow_88 2 rfl ?_
                refine v_iconst C 1 dX5_layRow_90 (by decide) ?_
                refine v_iload C dX5_layRow_91 0 rfl ?_
                refine v_ishl C dX5_layRow_93 ?_
                refine v_ior C dX5_layRow_94 ?_
                refine v_eqi (nI (set1 m c)) (raw_set m (by omega) c (by omega)) ?_
                refine v_istore C [(7, .int (nI (set1 m c))), (9, .int (nI c)), (8, .int (nI p)), (6, .int (nI (60 * k + iN))), (0, .ref (b 0)), (1, .int (nI k)), (2, .int x), (3, .int (nI iN)), (4, .int (nI nN))] dX5_layRow_95 (by decide) rfl ?_
                refine v_aload_n C dX5_layRow_97 4 rfl ?_
                refine v_get C f_X5_56 dX5_layRow_98 0 rfl rfl ?_
                refine v_iload C dX5_layRow_101 2 rfl ?_
                refine v_iload C dX5_layRow_103 1 rfl ?_
                refine v_iastN C [oN b n_fa n_tr n_mi n_ju (nI nc) n_cr n_at n_rm n_rj n_rc n_nw n_ov n_rl n_rd, ia (b 2) cI 4 n_so, ia (b 3) cI 4 n_sl, ia (b 4) cI 240 n_ce, ia (b 28) cI 5 (upd rw1 p (nI c))] dX5_layRow_105 4 rfl p rfl (by omega) (by decide) rfl ?_
                refine v_iinc C (nI (p + 1)) [(8, .int (nI (p + 1))), (7, .int (nI (set1 m c))), (9, .int (nI c)), (6, .int (nI (60 * k + iN))), (0, .ref (b 0)), (1, .int (nI k)), (2, .int x), (3, .int (nI iN)), (4, .int (nI nN))] 2 dX5_layRow_106 rfl (nI_inc _) (by decide) rfl ?_
                refine v_goto C 47 dX5_layRow_109 (by decide) ?_
                refine v_loc [0, 1, 3, 4, 5, 6, 7, 8] (lv' := [(8, .int (nI (p + 1))), (7, .int (nI (set1 m c))), (6, .int (nI (60 * k + iN))), (0, .ref (b 0)), (1, .int (nI k)), (2, .int x), (3, .int (nI iN)), (4, .int (nI nN))]) rfl ?_
                exact ihn_7 (p + 1) (set1 m c) (upd rw1 p (nI c)) (by omega) (by omega) (odS_step hod hcc hcn (by omega) hbt) (set1_lt nc (by omega) m hm c hcn) (by omega) (fun q hq => up_at hof hcc q hq)
              · have hbt : m.testBit c = true := bA_n.mp (by rw [c12]; decide)
                refine v_iconst C (-1) dX5_layRow_86 (by decide) ?_
                exact v_reti C hA dX5_layRow_87 rfl (Or.inr (Or.inr (Or.inl ⟨c3, zc5, by rw [ei, en']; exact odS_none (odS_bad hod (fun q => q.2 (by rw [show sc (iN + p) = nI c from hcc, nI_clamp (by omega)]; exact hbt))) nN (by omega), rfl, _, rfl⟩)))
            · refine v_eqi 0 (bI_f c11) ?_
              refine v_if_eq C 86 dX5_layRow_72 (by decide) (fun _ => ?_) (fun h => absurd h (by decide))
              refine v_iconst C (-1) dX5_layRow_86 (by decide) ?_
              exact v_reti C hA dX5_layRow_87 rfl (Or.inr (Or.inr (Or.inl ⟨c3, zc5, by rw [ei, en']; exact odS_none (odS_bad hod (fun q => c11 q.1)) nN (by omega), rfl, _, rfl⟩)))
      refine v_loc [0, 1, 2, 4, 5, 6, 7, 8] (lv' := [(8, .int 0), (7, .int 0), (6, .int (nI (60 * k + iN))), (0, .ref (b 0)), (1, .int (nI k)), (2, .int x), (3, .int (nI iN)), (4, .int (nI nN))]) rfl ?_
      exact lp (nN - 0 + 1) 0 0 n_rw (by omega) (by omega) rfl (Nat.two_pow_pos nc) rfl (fun q hq => absurd hq (by omega))
    · have nc4 : nc = 0 := nI_eqP c4 (by omega) (by omega)
      have zc13 : nI nc ≤ 0 := by rw [nc0 hnc]; exact nc4
      refine v_bipush C (-3) dX5_layRow_30 (by decide) ?_
      exact v_reti C hA dX5_layRow_32 rfl (Or.inr (Or.inl ⟨c3, zc13, rfl, rfl⟩))
  · refine v_aload_n C dX5_layRow_16 1 rfl ?_
    refine v_iload C dX5_layRow_17 0 rfl ?_
    refine v_callMi C l_X5_98 (m_X5_fails b n_fa n_tr n_mi n_ju (nI nc) n_cr n_at n_rm n_rj n_rc n_nw n_ov n_rl n_rd (focF hs sl (nI g) x i n)) (by decide) dX5_layRow_19 [0] [1, 2, 3, 4] (wr := [ia (b 2) cI 4 n_so, ia (b 3) cI 4 n_sl, ia (b 4) cI 240 n_ce, ia (b 28) cI 5 n_rw]) (by decide) rfl rfl (by decide) (by decide) 0 rfl rfl rfl (rest := []) rfl (Nat.le_of_ble_eq_true rfl) (by decide) (fun r16 w14 h15 => ?_)
    obtain ⟨rfl, rfl⟩ := h15
    refine v_ws0 [ia (b 2) cI 4 n_so, ia (b 3) cI 4 n_sl, ia (b 4) cI 240 n_ce, ia (b 28) cI 5 n_rw, oN b (focF hs sl (nI g) x i n) n_tr n_mi n_ju (nI nc) n_cr n_at n_rm n_rj n_rc n_nw n_ov n_rl n_rd] rfl ?_
    refine v_perm (ws' := [oN b (focF hs sl (nI g) x i n) n_tr n_mi n_ju (nI nc) n_cr n_at n_rm n_rj n_rc n_nw n_ov n_rl n_rd, ia (b 2) cI 4 n_so, ia (b 3) cI 4 n_sl, ia (b 4) cI 240 n_ce, ia (b 28) cI 5 n_rw]) [4, 0, 1, 2, 3] (by decide) rfl ?_
    exact v_reti C hA dX5_layRow_22 rfl (Or.inl ⟨c3, rfl, rfl⟩)
set_option maxHeartbeats 4000000 in
set_option maxRecDepth 100000 in
theorem m_X5_sitting {l : Launch} {D : va_G} {cI cB cS : ClassId} (b : Nat → Nat) (k g : Nat) (hs sl : Int32) (nj nc wl s0 st nr : Nat) (dn : Nat → Nat) (sc : Nat → Int32) (n_fa : Int32) (n_tr : Int32) (n_mi : Int32) (n_at : Int32) (n_rm : Int32) (n_rj : Int32) (n_rc : Int32) (n_nw : Int32) (n_ov : Int32) (n_rl : Int32) (n_kd : Nat → Int32) (n_ag : Nat → Int32) (n_hS : Nat → Int32) (n_iS : Nat → Int32) (n_iE : Nat → Int32) (n_de : Nat → Int32) (n_fr : Nat → Int32) (n_ho : Nat → Int32) (n_vd : Nat → Int32) (n_rw : Nat → Int32) (n_we : Nat → Int32) (n_so : Nat → Int32) (n_sl : Nat → Int32) (n_ce : Nat → Int32) (q : Int32) (x : Int32) (i : Int32) (n : Int32) (wh : Int32) (hk : k < 4) (hg : g ≤ 60) (hq : vS q → q = nI k) (hso : n_so k = soF hs sl) (hsn : n_sl k = nI g) (hlv : ¬ hs = 0 → ¬ sl = -9) (hce : ∀ i, i < 60 → n_ce (60 * k + i) = sc i) (hnj : nj ≤ 5) (hnc : nc ≤ 5) (hwl : wl < 64) (hs0 : s0 < 2 ^ nj) (hst2 : st < 2 ^ nj) (hp5 : 2 ^ nj ≤ 32) (hnr : nr ≤ 8) (hhS : ∀ j, j < nj → n_hS j = bA s0 j) (hiS : ∀ j, j < nj → n_iS j = bA st j) (hde : ∀ c, c < nc → n_de c = nI (dn c) ∧ dn c < 6) : Mi l yX5_sitting cX5_sitting 7 (some .int) 5 113 D cI cB cS [.ref (b 0), .int q, .int x, .int i, .int n, .int wh] [oN b n_fa n_tr n_mi (nI nj) (nI nc) (nI wl) n_at n_rm n_rj n_rc n_nw n_ov n_rl (nI nr), ia (b 9) cI 5 n_kd, ia (b 10) cI 5 n_ag, ia (b 11) cB 5 n_hS, ia (b 12) cB 5 n_iS, ia (b 26) cB 5 n_iE, ia (b 13) cI 5 n_de, ia (b 14) cI 5 n_fr, ia (b 24) cI 5 n_ho, ia (b 25) cI 6 n_vd, ia (b 28) cI 5 n_rw, ia (b 15) cI 5 n_we, ia (b 2) cI 4 n_so, ia (b 3) cI 4 n_sl, ia (b 4) cI 240 n_ce] (fun r w => ∃ (nw' : Int32) (ov' : Int32) (ho' : Nat → Int32) (vd' : Nat → Int32) (iE' : Nat → Int32) (rl' : Int32) (rw' : Nat → Int32), r = stF q x wh (focF hs sl (nI g) x i n) nc (odS (fun qx => sc (i.toNatClampNeg + qx)) nc n.toNatClampNeg) (sitS nj n_kd n_ag st wl dn n_fr n_we n_mi s0 (fun px => zN ((fun qx => sc (i.toNatClampNeg + qx)) px)) (n.toNatClampNeg)).1 (sitS nj n_kd n_ag st wl dn n_fr n_we n_mi s0 (fun px => zN ((fun qx => sc (i.toNatClampNeg + qx)) px)) (n.toNatClampNeg)).2.2.2.1 (sitS nj n_kd n_ag st wl dn n_fr n_we n_mi s0 (fun px => zN ((fun qx => sc (i.toNatClampNeg + qx)) px)) (n.toNatClampNeg)).2.2.2.2.1 ∧ w = [oN b (stT q x wh (focF hs sl (nI g) x i n)) n_tr n_mi (nI nj) (nI nc) (nI wl) n_at n_rm n_rj n_rc nw' ov' rl' (nI nr), ia (b 9) cI 5 n_kd, ia (b 10) cI 5 n_ag, ia (b 11) cB 5 n_hS, ia (b 12) cB 5 n_iS, ia (b 26) cB 5 iE', ia (b 13) cI 5 n_de, ia (b 14) cI 5 n_fr, ia (b 24) cI 5 ho', ia (b 25) cI 6 vd', ia (b 28) cI 5 rw', ia (b 15) cI 5 n_we, ia (b 2) cI 4 n_so, ia (b 3) cI 4 n_sl, ia (b 4) cI 240 n_ce]) := by
  refine Mi.of (by decide) (Nat.le_of_ble_eq_true rfl) ?_
  intro zp ze zs zm zb zt zc zz zA hA C hnm
  refine v_lv0 [(0, .ref (b 0)), (1, .int q), (2, .int x), (3, .int i), (4, .int n), (5, .int wh)] rfl ?_
  refine v_aload_n C dX5_sitting_0 0 rfl ?_
  refine v_iconst C 0 dX5_sitting_1 (by decide) ?_
  refine v_put C p_X5_68 [oN b 0 n_tr n_mi (nI nj) (nI nc) (nI wl) n_at n_rm n_rj n_rc n_nw n_ov n_rl (nI nr), ia (b 9) cI 5 n_kd, ia (b 10) cI 5 n_ag, ia (b 11) cB 5 n_hS, ia (b 12) cB 5 n_iS, ia (b 26) cB 5 n_iE, ia (b 13) cI 5 n_de, ia (b 14) cI 5 n_fr, ia (b 24) cI 5 n_ho, ia (b 25) cI 6 n_vd, ia (b 28) cI 5 n_rw, ia (b 15) cI 5 n_we, ia (b 2) cI 4 n_so, ia (b 3) cI 4 n_sl, ia (b 4) cI 240 n_ce] dX5_sitting_2 0 rfl rfl rfl (Nat.le_of_ble_eq_true rfl) rfl ?_
  refine v_iload_n C dX5_sitting_5 1 rfl ?_
  refine v_callSi C l_X5_87 (m_X5_isSheet q) (by decide) dX5_sitting_6 [] rfl rfl (rest := []) rfl (Nat.le_of_ble_eq_true rfl) (by decide) (fun r1 h2 => ?_)
  subst h2
  by_cases c3 : vSb q = true
  · refine v_eqi 1 (bI_t c3) ?_
    have eq := hq c3
    subst eq
    refine v_if_ne C 14 dX5_sitting_9 (by decide) (fun _ => ?_) (fun h => absurd h (by decide))
    refine v_iload_n C dX5_sitting_14 2 rfl ?_
    refine v_callSi C l_X5_91 (m_X5_isSort x) (by decide) dX5_sitting_15 [] rfl rfl (rest := []) rfl (Nat.le_of_ble_eq_true rfl) (by decide) (fun r4 h5 => ?_)
    subst h5
    by_cases c6 : vLb x = true
    · refine v_eqi 1 (bI_t c6) ?_
      refine v_if_eq C 43 dX5_sitting_18 (by decide) (fun h => absurd h (by decide)) (fun _ => ?_)
      refine v_iload C dX5_sitting_21 5 rfl ?_
      refine v_iconst C 0 dX5_sitting_23 (by decide) ?_
      refine v_iconst C 1 dX5_sitting_24 (by decide) ?_
      refine v_callSi C l_X5_74 (m_X5_within wh 0 1) (by decide) dX5_sitting_25 [] rfl rfl (rest := []) rfl (Nat.le_of_ble_eq_true rfl) (by decide) (fun r7 h8 => ?_)
      subst h8
      by_cases c9 : wib wh (0 : Int32) (1 : Int32) = true
      · refine v_eqi 1 (bI_t c9) ?_
        rw [wib_1] at c9
        refine v_if_ne C 46 dX5_sitting_28 (by decide) (fun _ => ?_) (fun h => absurd h (by decide))
        have zw : wOk wh := Or.inr (x_01 c9)
        refine v_aload_n C dX5_sitting_46 0 rfl ?_
        refine v_iload_n C dX5_sitting_47 1 rfl ?_
        refine v_iload_n C dX5_sitting_48 2 rfl ?_
        refine v_iload_n C dX5_sitting_49 3 rfl ?_
        refine v_iload C dX5_sitting_50 4 rfl ?_
        refine v_callMi C l_X5_183 (m_X5_layRow b k g hs sl nc sc 0 n_tr n_mi (nI nj) (nI wl) n_at n_rm n_rj n_rc n_nw n_ov n_rl (nI nr) n_so n_sl n_ce n_rw x i n hnc (pow5 hnc) (by assumption) (by assumption) (by assumption) (by assumption) (by assumption) (by assumption)) (by decide) dX5_sitting_52 [0, 12, 13, 14, 10] [1, 2, 3, 4, 5, 6, 7, 8, 9, 11] (wr := [ia (b 9) cI 5 n_kd, ia (b 10) cI 5 n_ag, ia (b 11) cB 5 n_hS, ia (b 12) cB 5 n_iS, ia (b 26) cB 5 n_iE, ia (b 13) cI 5 n_de, ia (b 14) cI 5 n_fr, ia (b 24) cI 5 n_ho, ia (b 25) cI 6 n_vd, ia (b 15) cI 5 n_we]) (by decide) rfl rfl (by decide) (by decide) 0 rfl rfl rfl (rest := []) rfl (Nat.le_of_ble_eq_true rfl) (by decide) (fun r12 w10 h11 => ?_)
        rcases h11 with ⟨t13, rfl, rfl⟩ | ⟨t13, t14, rfl, rfl⟩ | ⟨t13, t14, t15, rfl, rw_20, rfl⟩ | ⟨t13, t14, rfl, m18, rw_19, t15, t16, rfl, hof17⟩
        · refine v_ws0 [ia (b 9) cI 5 n_kd, ia (b 10) cI 5 n_ag, ia (b 11) cB 5 n_hS, ia (b 12) cB 5 n_iS, ia (b 26) cB 5 n_iE, ia (b 13) cI 5 n_de, ia (b 14) cI 5 n_fr, ia (b 24) cI 5 n_ho, ia (b 25) cI 6 n_vd, ia (b 15) cI 5 n_we, oN b (focF hs sl (nI g) x i n) n_tr n_mi (nI nj) (nI nc) (nI wl) n_at n_rm n_rj n_rc n_nw n_ov n_rl (nI nr), ia (b 2) cI 4 n_so, ia (b 3) cI 4 n_sl, ia (b 4) cI 240 n_ce, ia (b 28) cI 5 n_rw] rfl ?_
          refine v_istore C [(6, .int ((-10) - focF hs sl (nI g) x i n)), (0, .ref (b 0)), (1, .int (nI k)), (2, .int x), (3, .int i), (4, .int n), (5, .int wh)] dX5_sitting_55 (by decide) rfl ?_
          refine v_iload C dX5_sitting_57 0 rfl ?_
          refine v_if_eq C 65 dX5_sitting_59 (by decide) (fun c21 => ?_) (fun c21 => ?_)
          · exact absurd c21 foc_ne
          · refine v_iload C dX5_sitting_62 0 rfl ?_
            refine v_perm (ws' := [oN b (focF hs sl (nI g) x i n) n_tr n_mi (nI nj) (nI nc) (nI wl) n_at n_rm n_rj n_rc n_nw n_ov n_rl (nI nr), ia (b 9) cI 5 n_kd, ia (b 10) cI 5 n_ag, ia (b 11) cB 5 n_hS, ia (b 12) cB 5 n_iS, ia (b 26) cB 5 n_iE, ia (b 13) cI 5 n_de, ia (b 14) cI 5 n_fr, ia (b 24) cI 5 n_ho, ia (b 25) cI 6 n_vd, ia (b 28) cI 5 n_rw, ia (b 15) cI 5 n_we, ia (b 2) cI 4 n_so, ia (b 3) cI 4 n_sl, ia (b 4) cI 240 n_ce]) [10, 0, 1, 2, 3, 4, 5, 6, 7, 8, 14, 9, 11, 12, 13] (by decide) rfl ?_
            exact v_reti C hA dX5_sitting_64 rfl (⟨_, _, _, _, _, _, _, by first | (simp only [stF, stT, vS, vL, c3, c6, zw, t13, false_or, or_false, true_or, or_true, not_false_eq_true, not_true_eq_false, and_self, and_true, true_and, and_false, false_and, ↓reduceIte]; done) | (simp only [stF, stT, vS, vL, c3, c6, zw, t13, false_or, or_false, true_or, or_true, not_false_eq_true, not_true_eq_false, and_self, and_true, true_and, and_false, false_and, ↓reduceIte]; rfl) | (simp [stF, stT, vS, vL, c3, c6, zw, t13]; done), by first | (simp only [stF, stT, vS, vL, c3, c6, zw, t13, false_or, or_false, true_or, or_true, not_false_eq_true, not_true_eq_false, and_self, and_true, true_and, and_false, false_and, ↓reduceIte]; done) | (simp only [stF, stT, vS, vL, c3, c6, zw, t13, false_or, or_false, true_or, or_true, not_false_eq_true, not_true_eq_false, and_self, and_true, true_and, and_false, false_and, ↓reduceIte]; rfl) | (simp [stF, stT, vS, vL, c3, c6, zw, t13]; done)⟩)
        · refine v_ws0 [ia (b 9) cI 5 n_kd, ia (b 10) cI 5 n_ag, ia (b 11) cB 5 n_hS, ia (b 12) cB 5 n_iS, ia (b 26) cB 5 n_iE, ia (b 13) cI 5 n_de, ia (b 14) cI 5 n_fr, ia (b 24) cI 5 n_ho, ia (b 25) cI 6 n_vd, ia (b 15) cI 5 n_we, oN b 0 n_tr n_mi (nI nj) (nI nc) (nI wl) n_at n_rm n_rj n_rc n_nw n_ov n_rl (nI nr), ia (b 2) cI 4 n_so, ia (b 3) cI 4 n_sl, ia (b 4) cI 240 n_ce, ia (b 28) cI 5 n_rw] rfl ?_
          refine v_istore C [(6, .int (-3)), (0, .ref (b 0)), (1, .int (nI k)), (2, .int x), (3, .int i), (4, .int n), (5, .int wh)] dX5_sitting_55 (by decide) rfl ?_
          refine v_iload C dX5_sitting_57 0 rfl ?_
          refine v_if_eq C 65 dX5_sitting_59 (by decide) (fun h => absurd h (by decide)) (fun _ => ?_)
          refine v_iload C dX5_sitting_62 0 rfl ?_
          refine v_perm (ws' := [oN b 0 n_tr n_mi (nI nj) (nI nc) (nI wl) n_at n_rm n_rj n_rc n_nw n_ov n_rl (nI nr), ia (b 9) cI 5 n_kd, ia (b 10) cI 5 n_ag, ia (b 11) cB 5 n_hS, ia (b 12) cB 5 n_iS, ia (b 26) cB 5 n_iE, ia (b 13) cI 5 n_de, ia (b 14) cI 5 n_fr, ia (b 24) cI 5 n_ho, ia (b 25) cI 6 n_vd, ia (b 28) cI 5 n_rw, ia (b 15) cI 5 n_we, ia (b 2) cI 4 n_so, ia (b 3) cI 4 n_sl, ia (b 4) cI 240 n_ce]) [10, 0, 1, 2, 3, 4, 5, 6, 7, 8, 14, 9, 11, 12, 13] (by decide) rfl ?_
          exact v_reti C hA dX5_sitting_64 rfl (⟨_, _, _, _, _, _, _, by first | (simp only [stF, stT, vS, vL, c3, c6, zw, t13, t14, false_or, or_false, true_or, or_true, not_false_eq_true, not_true_eq_false, and_self, and_true, true_and, and_false, false_and, ↓reduceIte]; done) | (simp only [stF, stT, vS, vL, c3, c6, zw, t13, t14, false_or, or_false, true_or, or_true, not_false_eq_true, not_true_eq_false, and_self, and_true, true_and, and_false, false_and, ↓reduceIte]; rfl) | (simp [stF, stT, vS, vL, c3, c6, zw, t13, t14]; done), by first | (simp only [stF, stT, vS, vL, c3, c6, zw, t13, t14, false_or, or_false, true_or, or_true, not_false_eq_true, not_true_eq_false, and_self, and_true, true_and, and_false, false_and, ↓reduceIte]; done) | (simp only [stF, stT, vS, vL, c3, c6, zw, t13, t14, false_or, or_false, true_or, or_true, not_false_eq_true, not_true_eq_false, and_self, and_true, true_and, and_false, false_and, ↓reduceIte]; rfl) | (simp [stF, stT, vS, vL, c3, c6, zw, t13, t14]; done)⟩)
        · refine v_ws0 [ia (b 9) cI 5 n_kd, ia (b 10) cI 5 n_ag, ia (b 11) cB 5 n_hS, ia (b 12) cB 5 n_iS, ia (b 26) cB 5 n_iE, ia (b 13) cI 5 n_de, ia (b 14) cI 5 n_fr, ia (b 24) cI 5 n_ho, ia (b 25) cI 6 n_vd, ia (b 15) cI 5 n_we, oN b 0 n_tr n_mi (nI nj) (nI nc) (nI wl) n_at n_rm n_rj n_rc n_nw n_ov n_rl (nI nr), ia (b 2) cI 4 n_so, ia (b 3) cI 4 n_sl, ia (b 4) cI 240 n_ce, ia (b 28) cI 5 rw_20] rfl ?_
          refine v_istore C [(6, .int (-1)), (0, .ref (b 0)), (1, .int (nI k)), (2, .int x), (3, .int i), (4, .int n), (5, .int wh)] dX5_sitting_55 (by decide) rfl ?_
          refine v_iload C dX5_sitting_57 0 rfl ?_
          refine v_if_eq C 65 dX5_sitting_59 (by decide) (fun h => absurd h (by decide)) (fun _ => ?_)
          refine v_iload C dX5_sitting_62 0 rfl ?_
          refine v_perm (ws' := [oN b 0 n_tr n_mi (nI nj) (nI nc) (nI wl) n_at n_rm n_rj n_rc n_nw n_ov n_rl (nI nr), ia (b 9) cI 5 n_kd, ia (b 10) cI 5 n_ag, ia (b 11) cB 5 n_hS, ia (b 12) cB 5 n_iS, ia (b 26) cB 5 n_iE, ia (b 13) cI 5 n_de, ia (b 14) cI 5 n_fr, ia (b 24) cI 5 n_ho, ia (b 25) cI 6 n_vd, ia (b 28) cI 5 rw_20, ia (b 15) cI 5 n_we, ia (b 2) cI 4 n_so, ia (b 3) cI 4 n_sl, ia (b 4) cI 240 n_ce]) [10, 0, 1, 2, 3, 4, 5, 6, 7, 8, 14, 9, 11, 12, 13] (by decide) rfl ?_
          exact v_reti C hA dX5_sitting_64 rfl (⟨_, _, _, _, _, _, _, by first | (simp only [stF, stT, vS, vL, c3, c6, zw, t13, t14, t15, false_or, or_false, true_or, or_true, not_false_eq_true, not_true_eq_false, and_self, and_true, true_and, and_false, false_and, ↓reduceIte]; done) | (simp only [stF, stT, vS, vL, c3, c6, zw, t13, t14, t15, false_or, or_false, true_or, or_true, not_false_eq_true, not_true_eq_false, and_self, and_true, true_and, and_false, false_and, ↓reduceIte]; rfl) | (simp [stF, stT, vS, vL, c3, c6, zw, t13, t14, t15]; done), by first | (simp only [stF, stT, vS, vL, c3, c6, zw, t13, t14, t15, false_or, or_false, true_or, or_true, not_false_eq_true, not_true_eq_false, and_self, and_true, true_and, and_false, false_and, ↓reduceIte]; done) | (simp only [stF, stT, vS, vL, c3, c6, zw, t13, t14, t15, false_or, or_false, true_or, or_true, not_false_eq_true, not_true_eq_false, and_self, and_true, true_and, and_false, false_and, ↓reduceIte]; rfl) | (simp [stF, stT, vS, vL, c3, c6, zw, t13, t14, t15]; done)⟩)
        · refine v_ws0 [ia (b 9) cI 5 n_kd, ia (b 10) cI 5 n_ag, ia (b 11) cB 5 n_hS, ia (b 12) cB 5 n_iS, ia (b 26) cB 5 n_iE, ia (b 13) cI 5 n_de, ia (b 14) cI 5 n_fr, ia (b 24) cI 5 n_ho, ia (b 25) cI 6 n_vd, ia (b 15) cI 5 n_we, oN b 0 n_tr n_mi (nI nj) (nI nc) (nI wl) n_at n_rm n_rj n_rc n_nw n_ov (nI (n.toNatClampNeg)) (nI nr), ia (b 2) cI 4 n_so, ia (b 3) cI 4 n_sl, ia (b 4) cI 240 n_ce, ia (b 28) cI 5 rw_19] rfl ?_
          refine v_istore C [(6, .int 0), (0, .ref (b 0)), (1, .int (nI k)), (2, .int x), (3, .int i), (4, .int n), (5, .int wh)] dX5_sitting_55 (by decide) rfl ?_
          refine v_iload C dX5_sitting_57 0 rfl ?_
          refine v_if_eq C 65 dX5_sitting_59 (by decide) (fun _ => ?_) (fun h => absurd h (by decide))
          refine v_aload_n C dX5_sitting_65 1 rfl ?_
          refine v_callMv C l_X5_176 (m_X5_goRow b wl nj nc s0 st n.toNatClampNeg (fun px => zN ((fun qx => sc (i.toNatClampNeg + qx)) px)) dn n_we 0 n_tr n_mi n_at n_rm n_rj n_rc n_nw n_ov (nI nr) n_kd n_ag n_hS n_iS n_iE n_de n_fr n_ho n_vd rw_19 (by assumption) (by assumption) (by assumption) (by assumption) (by assumption) (by assumption) t16 (fun p hp => ⟨by rw [hof17 p hp]; exact (odS_ok hnc t15 p hp).1, (odS_ok hnc t15 p hp).2⟩)) (by decide) dX5_sitting_66 [10, 0, 1, 2, 3, 4, 5, 6, 7, 8, 14] [9, 11, 12, 13] (wr := [ia (b 15) cI 5 n_we, ia (b 2) cI 4 n_so, ia (b 3) cI 4 n_sl, ia (b 4) cI 240 n_ce]) (by decide) rfl rfl (by decide) (by decide) 10 rfl rfl rfl (rest := []) rfl (Nat.le_of_ble_eq_true rfl) (by decide) (fun w22 h23 => ?_)
          obtain ⟨nw_25, ov_26, ho_27, vd_28, iE_29, rfl, hs30⟩ := h23
          refine v_ws0 [ia (b 15) cI 5 n_we, ia (b 2) cI 4 n_so, ia (b 3) cI 4 n_sl, ia (b 4) cI 240 n_ce, oN b 0 n_tr n_mi (nI nj) (nI nc) (nI wl) n_at n_rm n_rj n_rc nw_25 ov_26 (nI (n.toNatClampNeg)) (nI nr), ia (b 9) cI 5 n_kd, ia (b 10) cI 5 n_ag, ia (b 11) cB 5 n_hS, ia (b 12) cB 5 n_iS, ia (b 26) cB 5 iE_29, ia (b 13) cI 5 n_de, ia (b 14) cI 5 n_fr, ia (b 24) cI 5 ho_27, ia (b 25) cI 6 vd_28, ia (b 28) cI 5 rw_19] rfl ?_
          obtain ⟨s1, s2, s3, s4, s5⟩ := id hs30
          refine v_iload C dX5_sitting_69 6 rfl ?_
          refine v_iconst C 2 dX5_sitting_71 (by decide) ?_
          refine v_icmp_ge C 92 dX5_sitting_72 (by decide) (fun c31 => ?_) (fun c31 => ?_)
          · exact absurd (Int32.le_trans c31 c9.2) (by decide)
          · have zwn := wh_no c9
            refine v_iload C dX5_sitting_75 6 rfl ?_
            refine v_if_ne C 87 dX5_sitting_77 (by decide) (fun c32 => ?_) (fun c32 => ?_)
            · refine v_aload_n C dX5_sitting_87 1 rfl ?_
              refine v_get C f_X5_146 dX5_sitting_88 4 rfl rfl ?_
              refine v_eqi ((sitS nj n_kd n_ag st wl dn n_fr n_we n_mi s0 (fun px => zN ((fun qx => sc (i.toNatClampNeg + qx)) px)) (n.toNatClampNeg)).2.2.2.1) (s1) ?_
              refine v_perm (ws' := [oN b 0 n_tr n_mi (nI nj) (nI nc) (nI wl) n_at n_rm n_rj n_rc nw_25 ov_26 (nI (n.toNatClampNeg)) (nI nr), ia (b 9) cI 5 n_kd, ia (b 10) cI 5 n_ag, ia (b 11) cB 5 n_hS, ia (b 12) cB 5 n_iS, ia (b 26) cB 5 iE_29, ia (b 13) cI 5 n_de, ia (b 14) cI 5 n_fr, ia (b 24) cI 5 ho_27, ia (b 25) cI 6 vd_28, ia (b 28) cI 5 rw_19, ia (b 15) cI 5 n_we, ia (b 2) cI 4 n_so, ia (b 3) cI 4 n_sl, ia (b 4) cI 240 n_ce]) [4, 5, 6, 7, 8, 9, 10, 11, 12, 13, 14, 0, 1, 2, 3] (by decide) rfl ?_
              exact v_reti C hA dX5_sitting_91 rfl (⟨_, _, _, _, _, _, _, by first | (simp only [stF, stT, vS, vL, c3, c6, zw, t13, t14, c32, t15, zwn, false_or, or_false, true_or, or_true, not_false_eq_true, not_true_eq_false, and_self, and_true, true_and, and_false, false_and, ↓reduceIte]; done) | (simp only [stF, stT, vS, vL, c3, c6, zw, t13, t14, c32, t15, zwn, false_or, or_false, true_or, or_true, not_false_eq_true, not_true_eq_false, and_self, and_true, true_and, and_false, false_and, ↓reduceIte]; rfl) | (simp [stF, stT, vS, vL, c3, c6, zw, t13, t14, c32, t15, zwn]; done), by first | (simp only [stF, stT, vS, vL, c3, c6, zw, t13, t14, c32, t15, zwn, false_or, or_false, true_or, or_true, not_false_eq_true, not_true_eq_false, and_self, and_true, true_and, and_false, false_and, ↓reduceIte]; done) | (simp only [stF, stT, vS, vL, c3, c6, zw, t13, t14, c32, t15, zwn, false_or, or_false, true_or, or_true, not_false_eq_true, not_true_eq_false, and_self, and_true, true_and, and_false, false_and, ↓reduceIte]; rfl) | (simp [stF, stT, vS, vL, c3, c6, zw, t13, t14, c32, t15, zwn]; done)⟩)
            · refine v_aload_n C dX5_sitting_80 1 rfl ?_
              refine v_callRi C l_X5_179 (m_X5_sentenced b nc 0 n_tr n_mi (nI nj) (nI wl) n_at n_rm n_rj n_rc nw_25 ov_26 (nI (n.toNatClampNeg)) (nI nr) ho_27 n_we (by assumption)) (by decide) dX5_sitting_81 [4, 12, 0] rfl 4 rfl rfl rfl (rest := []) rfl (Nat.le_of_ble_eq_true rfl) (by decide) (fun r33 h34 => ?_)
              subst h34
              refine v_goto C 91 dX5_sitting_84 (by decide) ?_
              refine v_eqi ((sitS nj n_kd n_ag st wl dn n_fr n_we n_mi s0 (fun px => zN ((fun qx => sc (i.toNatClampNeg + qx)) px)) (n.toNatClampNeg)).2.2.2.2.1) (by rw [seS_cong s3]; exact (sit_se (fun p hp => (odS_ok hnc t15 p hp).2) (fun p q hp hq e => odS_inj hnc t15 p q hp hq e) _ (Nat.le_refl _)).symm) ?_
              refine v_perm (ws' := [oN b 0 n_tr n_mi (nI nj) (nI nc) (nI wl) n_at n_rm n_rj n_rc nw_25 ov_26 (nI (n.toNatClampNeg)) (nI nr), ia (b 9) cI 5 n_kd, ia (b 10) cI 5 n_ag, ia (b 11) cB 5 n_hS, ia (b 12) cB 5 n_iS, ia (b 26) cB 5 iE_29, ia (b 13) cI 5 n_de, ia (b 14) cI 5 n_fr, ia (b 24) cI 5 ho_27, ia (b 25) cI 6 vd_28, ia (b 28) cI 5 rw_19, ia (b 15) cI 5 n_we, ia (b 2) cI 4 n_so, ia (b 3) cI 4 n_sl, ia (b 4) cI 240 n_ce]) [4, 5, 6, 7, 8, 9, 10, 11, 12, 13, 14, 0, 1, 2, 3] (by decide) rfl ?_
              exact v_reti C hA dX5_sitting_91 rfl (⟨_, _, _, _, _, _, _, by first | (simp only [stF, stT, vS, vL, c3, c6, zw, t13, t14, c32, t15, zwn, false_or, or_false, true_or, or_true, not_false_eq_true, not_true_eq_false, and_self, and_true, true_and, and_false, false_and, ↓reduceIte]; done) | (simp only [stF, stT, vS, vL, c3, c6, zw, t13, t14, c32, t15, zwn, false_or, or_false, true_or, or_true, not_false_eq_true, not_true_eq_false, and_self, and_true, true_and, and_false, false_and, ↓reduceIte]; rfl) | (simp [stF, stT, vS, vL, c3, c6, zw, t13, t14, c32, t15, zwn]; done), by first | (simp only [stF, stT, vS, vL, c3, c6, zw, t13, t14, c32, t15, zwn, false_or, or_false, true_or, or_true, not_false_eq_true, not_true_eq_false, and_self, and_true, true_and, and_false, false_and, ↓reduceIte]; done) | (simp only [stF, stT, vS, vL, c3, c6, zw, t13, t14, c32, t15, zwn, false_or, or_false, true_or, or_true, not_false_eq_true, not_true_eq_false, and_self, and_true, true_and, and_false, false_and, ↓reduceIte]; rfl) | (simp [stF, stT, vS, vL, c3, c6, zw, t13, t14, c32, t15, zwn]; done)⟩)
      · refine v_eqi 0 (bI_f c9) ?_
        rw [wib_1] at c9
        refine v_if_ne C 46 dX5_sitting_28 (by decide) (fun h => absurd h (by decide)) (fun _ => ?_)
        refine v_iload C dX5_sitting_31 5 rfl ?_
        refine v_bipush C 10 dX5_sitting_33 (by decide) ?_
        refine v_bipush C 14 dX5_sitting_35 (by decide) ?_
        refine v_callSi C l_X5_74 (m_X5_within wh 10 14) (by decide) dX5_sitting_37 [] rfl rfl (rest := []) rfl (Nat.le_of_ble_eq_true rfl) (by decide) (fun r35 h36 => ?_)
        subst h36
        by_cases c37 : wib wh (10 : Int32) (14 : Int32) = true
        · refine v_eqi 1 (bI_t c37) ?_
          rw [wib_14] at c37
          refine v_if_ne C 46 dX5_sitting_40 (by decide) (fun _ => ?_) (fun h => absurd h (by decide))
          have zw : wOk wh := Or.inl c37
          refine v_aload_n C dX5_sitting_46 0 rfl ?_
          refine v_iload_n C dX5_sitting_47 1 rfl ?_
          refine v_iload_n C dX5_sitting_48 2 rfl ?_
          refine v_iload_n C dX5_sitting_49 3 rfl ?_
          refine v_iload C dX5_sitting_50 4 rfl ?_
          refine v_callMi C l_X5_183 (m_X5_layRow b k g hs sl nc sc 0 n_tr n_mi (nI nj) (nI wl) n_at n_rm n_rj n_rc n_nw n_ov n_rl (nI nr) n_so n_sl n_ce n_rw x i n hnc (pow5 hnc) (by assumption) (by assumption) (by assumption) (by assumption) (by assumption) (by assumption)) (by decide) dX5_sitting_52 [0, 12, 13, 14, 10] [1, 2, 3, 4, 5, 6, 7, 8, 9, 11] (wr := [ia (b 9) cI 5 n_kd, ia (b 10) cI 5 n_ag, ia (b 11) cB 5 n_hS, ia (b 12) cB 5 n_iS, ia (b 26) cB 5 n_iE, ia (b 13) cI 5 n_de, ia (b 14) cI 5 n_fr, ia (b 24) cI 5 n_ho, ia (b 25) cI 6 n_vd, ia (b 15) cI 5 n_we]) (by decide) rfl rfl (by decide) (by decide) 0 rfl rfl rfl (rest := []) rfl (Nat.le_of_ble_eq_true rfl) (by decide) (fun r40 w38 h39 => ?_)
          rcases h39 with ⟨t41, rfl, rfl⟩ | ⟨t41, t42, rfl, rfl⟩ | ⟨t41, t42, t43, rfl, rw_48, rfl⟩ | ⟨t41, t42, rfl, m46, rw_47, t43, t44, rfl, hof45⟩
          · refine v_ws0 [ia (b 9) cI 5 n_kd, ia (b 10) cI 5 n_ag, ia (b 11) cB 5 n_hS, ia (b 12) cB 5 n_iS, ia (b 26) cB 5 n_iE, ia (b 13) cI 5 n_de, ia (b 14) cI 5 n_fr, ia (b 24) cI 5 n_ho, ia (b 25) cI 6 n_vd, ia (b 15) cI 5 n_we, oN b (focF hs sl (nI g) x i n) n_tr n_mi (nI nj) (nI nc) (nI wl) n_at n_rm n_rj n_rc n_nw n_ov n_rl (nI nr), ia (b 2) cI 4 n_so, ia (b 3) cI 4 n_sl, ia (b 4) cI 240 n_ce, ia (b 28) cI 5 n_rw] rfl ?_
            refine v_istore C [(6, .int ((-10) - focF hs sl (nI g) x i n)), (0, .ref (b 0)), (1, .int (nI k)), (2, .int x), (3, .int i), (4, .int n), (5, .int wh)] dX5_sitting_55 (by decide) rfl ?_
            refine v_iload C dX5_sitting_57 0 rfl ?_
            refine v_if_eq C 65 dX5_sitting_59 (by decide) (fun c49 => ?_) (fun c49 => ?_)
            · exact absurd c49 foc_ne
            · refine v_iload C dX5_sitting_62 0 rfl ?_
              refine v_perm (ws' := [oN b (focF hs sl (nI g) x i n) n_tr n_mi (nI nj) (nI nc) (nI wl) n_at n_rm n_rj n_rc n_nw n_ov n_rl (nI nr), ia (b 9) cI 5 n_kd, ia (b 10) cI 5 n_ag, ia (b 11) cB 5 n_hS, ia (b 12) cB 5 n_iS, ia (b 26) cB 5 n_iE, ia (b 13) cI 5 n_de, ia (b 14) cI 5 n_fr, ia (b 24) cI 5 n_ho, ia (b 25) cI 6 n_vd, ia (b 28) cI 5 n_rw, ia (b 15) cI 5 n_we, ia (b 2) cI 4 n_so, ia (b 3) cI 4 n_sl, ia (b 4) cI 240 n_ce]) [10, 0, 1, 2, 3, 4, 5, 6, 7, 8, 14, 9, 11, 12, 13] (by decide) rfl ?_
              exact v_reti C hA dX5_sitting_64 rfl (⟨_, _, _, _, _, _, _, by first | (simp only [stF, stT, vS, vL, c3, c6, zw, t41, false_or, or_false, true_or, or_true, not_false_eq_true, not_true_eq_false, and_self, and_true, true_and, and_false, false_and, ↓reduceIte]; done) | (simp only [stF, stT, vS, vL, c3, c6, zw, t41, false_or, or_false, true_or, or_true, not_false_eq_true, not_true_eq_false, and_self, and_true, true_and, and_false, false_and, ↓reduceIte]; rfl) | (simp [stF, stT, vS, vL, c3, c6, zw, t41]; done), by first | (simp only [stF, stT, vS, vL, c3, c6, zw, t41, false_or, or_false, true_or, or_true, not_false_eq_true, not_true_eq_false, and_self, and_true, true_and, and_false, false_and, ↓reduceIte]; done) | (simp only [stF, stT, vS, vL, c3, c6, zw, t41, false_or, or_false, true_or, or_true, not_false_eq_true, not_true_eq_false, and_self, and_true, true_and, and_false, false_and, ↓reduceIte]; rfl) | (simp [stF, stT, vS, vL, c3, c6, zw, t41]; done)⟩)
          · refine v_ws0 [ia (b 9) cI 5 n_kd, ia (b 10) cI 5 n_ag, ia (b 11) cB 5 n_hS, ia (b 12) cB 5 n_iS, ia (b 26) cB 5 n_iE, ia (b 13) cI 5 n_de, ia (b 14) cI 5 n_fr, ia (b 24) cI 5 n_ho, ia (b 25) cI 6 n_vd, ia (b 15) cI 5 n_we, oN b 0 n_tr n_mi (nI nj) (nI nc) (nI wl) n_at n_rm n_rj n_rc n_nw n_ov n_rl (nI nr), ia (b 2) cI 4 n_so, ia (b 3) cI 4 n_sl, ia (b 4) cI 240 n_ce, ia (b 28) cI 5 n_rw] rfl ?_
            refine v_istore C [(6, .int (-3)), (0, .ref (b 0)), (1, .int (nI k)), (2, .int x), (3, .int i), (4, .int n), (5, .int wh)] dX5_sitting_55 (by decide) rfl ?_
            refine v_iload C dX5_sitting_57 0 rfl ?_
            refine v_if_eq C 65 dX5_sitting_59 (by decide) (fun h => absurd h (by decide)) (fun _ => ?_)
            refine v_iload C dX5_sitting_62 0 rfl ?_
            refine v_perm (ws' := [oN b 0 n_tr n_mi (nI nj) (nI nc) (nI wl) n_at n_rm n_rj n_rc n_nw n_ov n_rl (nI nr), ia (b 9) cI 5 n_kd, ia (b 10) cI 5 n_ag, ia (b 11) cB 5 n_hS, ia (b 12) cB 5 n_iS, ia (b 26) cB 5 n_iE, ia (b 13) cI 5 n_de, ia (b 14) cI 5 n_fr, ia (b 24) cI 5 n_ho, ia (b 25) cI 6 n_vd, ia (b 28) cI 5 n_rw, ia (b 15) cI 5 n_we, ia (b 2) cI 4 n_so, ia (b 3) cI 4 n_sl, ia (b 4) cI 240 n_ce]) [10, 0, 1, 2, 3, 4, 5, 6, 7, 8, 14, 9, 11, 12, 13] (by decide) rfl ?_
            exact v_reti C hA dX5_sitting_64 rfl (⟨_, _, _, _, _, _, _, by first | (simp only [stF, stT, vS, vL, c3, c6, zw, t41, t42, false_or, or_false, true_or, or_true, not_false_eq_true, not_true_eq_false, and_self, and_true, true_and, and_false, false_and, ↓reduceIte]; done) | (simp only [stF, stT, vS, vL, c3, c6, zw, t41, t42, false_or, or_false, true_or, or_true, not_false_eq_true, not_true_eq_false, and_self, and_true, true_and, and_false, false_and, ↓reduceIte]; rfl) | (simp [stF, stT, vS, vL, c3, c6, zw, t41, t42]; done), by first | (simp only [stF, stT, vS, vL, c3, c6, zw, t41, t42, false_or, or_false, true_or, or_true, not_false_eq_true, not_true_eq_false, and_self, and_true, true_and, and_false, false_and, ↓reduceIte]; done) | (simp only [stF, stT, vS, vL, c3, c6, zw, t41, t42, false_or, or_false, true_or, or_true, not_false_eq_true, not_true_eq_false, and_self, and_true, true_and, and_false, false_and, ↓reduceIte]; rfl) | (simp [stF, stT, vS, vL, c3, c6, zw, t41, t42]; done)⟩)
          · refine v_ws0 [ia (b 9) cI 5 n_kd, ia (b 10) cI 5 n_ag, ia (b 11) cB 5 n_hS, ia (b 12) cB 5 n_iS, ia (b 26) cB 5 n_iE, ia (b 13) cI 5 n_de, ia (b 14) cI 5 n_fr, ia (b 24) cI 5 n_ho, ia (b 25) cI 6 n_vd, ia (b 15) cI 5 n_we, oN b 0 n_tr n_mi (nI nj) (nI nc) (nI wl) n_at n_rm n_rj n_rc n_nw n_ov n_rl (nI nr), ia (b 2) cI 4 n_so, ia (b 3) cI 4 n_sl, ia (b 4) cI 240 n_ce, ia (b 28) cI 5 rw_48] rfl ?_
            refine v_istore C [(6, .int (-1)), (0, .ref (b 0)), (1, .int (nI k)), (2, .int x), (3, .int i), (4, .int n), (5, .int wh)] dX5_sitting_55 (by decide) rfl ?_
            refine v_iload C dX5_sitting_57 0 rfl ?_
            refine v_if_eq C 65 dX5_sitting_59 (by decide) (fun h => absurd h (by decide)) (fun _ => ?_)
            refine v_iload C dX5_sitting_62 0 rfl ?_
            refine v_perm (ws' := [oN b 0 n_tr n_mi (nI nj) (nI nc) (nI wl) n_at n_rm n_rj n_rc n_nw n_ov n_rl (nI nr), ia (b 9) cI 5 n_kd, ia (b 10) cI 5 n_ag, ia (b 11) cB 5 n_hS, ia (b 12) cB 5 n_iS, ia (b 26) cB 5 n_iE, ia (b 13) cI 5 n_de, ia (b 14) cI 5 n_fr, ia (b 24) cI 5 n_ho, ia (b 25) cI 6 n_vd, ia (b 28) cI 5 rw_48, ia (b 15) cI 5 n_we, ia (b 2) cI 4 n_so, ia (b 3) cI 4 n_sl, ia (b 4) cI 240 n_ce]) [10, 0, 1, 2, 3, 4, 5, 6, 7, 8, 14, 9, 11, 12, 13] (by decide) rfl ?_
            exact v_reti C hA dX5_sitting_64 rfl (⟨_, _, _, _, _, _, _, by first | (simp only [stF, stT, vS, vL, c3, c6, zw, t41, t42, t43, false_or, or_false, true_or, or_true, not_false_eq_true, not_true_eq_false, and_self, and_true, true_and, and_false, false_and, ↓reduceIte]; done) | (simp only [stF, stT, vS, vL, c3, c6, zw, t41, t42, t43, false_or, or_false, true_or, or_true, not_false_eq_true, not_true_eq_false, and_self, and_true, true_and, and_false, false_and, ↓reduceIte]; rfl) | (simp [stF, stT, vS, vL, c3, c6, zw, t41, t42, t43]; done), by first | (simp only [stF, stT, vS, vL, c3, c6, zw, t41, t42, t43, false_or, or_false, true_or, or_true, not_false_eq_true, not_true_eq_false, and_self, and_true, true_and, and_false, false_and, ↓reduceIte]; done) | (simp only [stF, stT, vS, vL, c3, c6, zw, t41, t42, t43, false_or, or_false, true_or, or_true, not_false_eq_true, not_true_eq_false, and_self, and_true, true_and, and_false, false_and, ↓reduceIte]; rfl) | (simp [stF, stT, vS, vL, c3, c6, zw, t41, t42, t43]; done)⟩)
          · refine v_ws0 [ia (b 9) cI 5 n_kd, ia (b 10) cI 5 n_ag, ia (b 11) cB 5 n_hS, ia (b 12) cB 5 n_iS, ia (b 26) cB 5 n_iE, ia (b 13) cI 5 n_de, ia (b 14) cI 5 n_fr, ia (b 24) cI 5 n_ho, ia (b 25) cI 6 n_vd, ia (b 15) cI 5 n_we, oN b 0 n_tr n_mi (nI nj) (nI nc) (nI wl) n_at n_rm n_rj n_rc n_nw n_ov (nI (n.toNatClampNeg)) (nI nr), ia (b 2) cI 4 n_so, ia (b 3) cI 4 n_sl, ia (b 4) cI 240 n_ce, ia (b 28) cI 5 rw_47] rfl ?_
            refine v_istore C [(6, .int 0), (0, .ref (b 0)), (1, .int (nI k)), (2, .int x), (3, .int i), (4, .int n), (5, .int wh)] dX5_sitting_55 (by decide) rfl ?_
            refine v_iload C dX5_sitting_57 0 rfl ?_
            refine v_if_eq C 65 dX5_sitting_59 (by decide) (fun _ => ?_) (fun h => absurd h (by decide))
            refine v_aload_n C dX5_sitting_65 1 rfl ?_
            refine v_callMv C l_X5_176 (m_X5_goRow b wl nj nc s0 st n.toNatClampNeg (fun px => zN ((fun qx => sc (i.toNatClampNeg + qx)) px)) dn n_we 0 n_tr n_mi n_at n_rm n_rj n_rc n_nw n_ov (nI nr) n_kd n_ag n_hS n_iS n_iE n_de n_fr n_ho n_vd rw_47 (by assumption) (by assumption) (by assumption) (by assumption) (by assumption) (by assumption) t44 (fun p hp => ⟨by rw [hof45 p hp]; exact (odS_ok hnc t43 p hp).1, (odS_ok hnc t43 p hp).2⟩)) (by decide) dX5_sitting_66 [10, 0, 1, 2, 3, 4, 5, 6, 7, 8, 14] [9, 11, 12, 13] (wr := [ia (b 15) cI 5 n_we, ia (b 2) cI 4 n_so, ia (b 3) cI 4 n_sl, ia (b 4) cI 240 n_ce]) (by decide) rfl rfl (by decide) (by decide) 10 rfl rfl rfl (rest := []) rfl (Nat.le_of_ble_eq_true rfl) (by decide) (fun w50 h51 => ?_)
            obtain ⟨nw_53, ov_54, ho_55, vd_56, iE_57, rfl, hs58⟩ := h51
            refine v_ws0 [ia (b 15) cI 5 n_we, ia (b 2) cI 4 n_so, ia (b 3) cI 4 n_sl, ia (b 4) cI 240 n_ce, oN b 0 n_tr n_mi (nI nj) (nI nc) (nI wl) n_at n_rm n_rj n_rc nw_53 ov_54 (nI (n.toNatClampNeg)) (nI nr), ia (b 9) cI 5 n_kd, ia (b 10) cI 5 n_ag, ia (b 11) cB 5 n_hS, ia (b 12) cB 5 n_iS, ia (b 26) cB 5 iE_57, ia (b 13) cI 5 n_de, ia (b 14) cI 5 n_fr, ia (b 24) cI 5 ho_55, ia (b 25) cI 6 vd_56, ia (b 28) cI 5 rw_47] rfl ?_
            obtain ⟨s1, s2, s3, s4, s5⟩ := id hs58
            refine v_iload C dX5_sitting_69 6 rfl ?_
            refine v_iconst C 2 dX5_sitting_71 (by decide) ?_
            refine v_icmp_ge C 92 dX5_sitting_72 (by decide) (fun c59 => ?_) (fun c59 => ?_)
            · obtain ⟨v, hv, hwv, zwv⟩ := w_ix c37.1 c37.2
              refine v_aload_n C dX5_sitting_92 1 rfl ?_
              refine v_iload C dX5_sitting_93 6 rfl ?_
              refine v_bipush C 10 dX5_sitting_95 (by decide) ?_
              refine v_isub C dX5_sitting_97 ?_
              refine v_callRi C l_X5_143 (m_X5_isCase b 0 n_tr n_mi (nI nj) (nI nc) (nI wl) n_at n_rm n_rj n_rc nw_53 ov_54 (nI (n.toNatClampNeg)) (nI nr) (wh - 10)) (by decide) dX5_sitting_98 [4] rfl 4 rfl rfl rfl (rest := []) rfl (Nat.le_of_ble_eq_true rfl) (by decide) (fun r60 h61 => ?_)
              subst h61
              by_cases c62 : ¬ (wh - 10) < 0 ∧ ¬ (nI nc) ≤ (wh - 10)
              · refine v_eqi 1 (bI_t c62) ?_
                rw [hwv] at c62
                refine v_if_eq C 117 dX5_sitting_101 (by decide) (fun h => absurd h (by decide)) (fun _ => ?_)
                refine v_aload_n C dX5_sitting_104 1 rfl ?_
                refine v_get C f_X5_47 dX5_sitting_105 4 rfl rfl ?_
                refine v_iload C dX5_sitting_108 6 rfl ?_
                refine v_bipush C 10 dX5_sitting_110 (by decide) ?_
                refine v_isub C dX5_sitting_112 ?_
                refine v_ialdN C dX5_sitting_113 12 rfl v hwv hv (by decide) ?_
                refine v_goto C 119 dX5_sitting_114 (by decide) ?_
                refine v_eqi ((sitS nj n_kd n_ag st wl dn n_fr n_we n_mi s0 (fun px => zN ((fun qx => sc (i.toNatClampNeg + qx)) px)) (n.toNatClampNeg)).1 v) (s3 v (nI_ltD c62.2 (by omega))) ?_
                refine v_perm (ws' := [oN b 0 n_tr n_mi (nI nj) (nI nc) (nI wl) n_at n_rm n_rj n_rc nw_53 ov_54 (nI (n.toNatClampNeg)) (nI nr), ia (b 9) cI 5 n_kd, ia (b 10) cI 5 n_ag, ia (b 11) cB 5 n_hS, ia (b 12) cB 5 n_iS, ia (b 26) cB 5 iE_57, ia (b 13) cI 5 n_de, ia (b 14) cI 5 n_fr, ia (b 24) cI 5 ho_55, ia (b 25) cI 6 vd_56, ia (b 28) cI 5 rw_47, ia (b 15) cI 5 n_we, ia (b 2) cI 4 n_so, ia (b 3) cI 4 n_sl, ia (b 4) cI 240 n_ce]) [4, 5, 6, 7, 8, 9, 10, 11, 12, 13, 14, 0, 1, 2, 3] (by decide) rfl ?_
                exact v_reti C hA dX5_sitting_119 rfl (⟨_, _, _, _, _, _, _, by first | (simp only [stF, stT, vS, vL, c3, c6, zw, t41, t42, t43, zwv, c37, false_or, or_false, true_or, or_true, not_false_eq_true, not_true_eq_false, and_self, and_true, true_and, and_false, false_and, ↓reduceIte]; done) | (simp only [stF, stT, vS, vL, c3, c6, zw, t41, t42, t43, zwv, c37, false_or, or_false, true_or, or_true, not_false_eq_true, not_true_eq_false, and_self, and_true, true_and, and_false, false_and, ↓reduceIte]; rfl) | (simp [stF, stT, vS, vL, c3, c6, zw, t41, t42, t43, zwv, c37]; done), by first | (simp only [stF, stT, vS, vL, c3, c6, zw, t41, t42, t43, zwv, c37, false_or, or_false, true_or, or_true, not_false_eq_true, not_true_eq_false, and_self, and_true, true_and, and_false, false_and, ↓reduceIte]; done) | (simp only [stF, stT, vS, vL, c3, c6, zw, t41, t42, t43, zwv, c37, false_or, or_false, true_or, or_true, not_false_eq_true, not_true_eq_false, and_self, and_true, true_and, and_false, false_and, ↓reduceIte]; rfl) | (simp [stF, stT, vS, vL, c3, c6, zw, t41, t42, t43, zwv, c37]; done)⟩)
              · refine v_eqi 0 (bI_f c62) ?_
                rw [hwv] at c62
                refine v_if_eq C 117 dX5_sitting_101 (by decide) (fun _ => ?_) (fun h => absurd h (by decide))
                refine v_bipush C (-9) dX5_sitting_117 (by decide) ?_
                refine v_eqi ((sitS nj n_kd n_ag st wl dn n_fr n_we n_mi s0 (fun px => zN ((fun qx => sc (i.toNatClampNeg + qx)) px)) (n.toNatClampNeg)).1 v) ((sit_ve_out _ (fun q hq e => c62 ⟨nI_pos (by omega), nI_ge (by rw [← e]; exact (odS_ok hnc t43 q hq).2) (by omega)⟩)).symm) ?_
                refine v_perm (ws' := [oN b 0 n_tr n_mi (nI nj) (nI nc) (nI wl) n_at n_rm n_rj n_rc nw_53 ov_54 (nI (n.toNatClampNeg)) (nI nr), ia (b 9) cI 5 n_kd, ia (b 10) cI 5 n_ag, ia (b 11) cB 5 n_hS, ia (b 12) cB 5 n_iS, ia (b 26) cB 5 iE_57, ia (b 13) cI 5 n_de, ia (b 14) cI 5 n_fr, ia (b 24) cI 5 ho_55, ia (b 25) cI 6 vd_56, ia (b 28) cI 5 rw_47, ia (b 15) cI 5 n_we, ia (b 2) cI 4 n_so, ia (b 3) cI 4 n_sl, ia (b 4) cI 240 n_ce]) [4, 5, 6, 7, 8, 9, 10, 11, 12, 13, 14, 0, 1, 2, 3] (by decide) rfl ?_
                exact v_reti C hA dX5_sitting_119 rfl (⟨_, _, _, _, _, _, _, by first | (simp only [stF, stT, vS, vL, c3, c6, zw, t41, t42, t43, zwv, c37, false_or, or_false, true_or, or_true, not_false_eq_true, not_true_eq_false, and_self, and_true, true_and, and_false, false_and, ↓reduceIte]; done) | (simp only [stF, stT, vS, vL, c3, c6, zw, t41, t42, t43, zwv, c37, false_or, or_false, true_or, or_true, not_false_eq_true, not_true_eq_false, and_self, and_true, true_and, and_false, false_and, ↓reduceIte]; rfl) | (simp [stF, stT, vS, vL, c3, c6, zw, t41, t42, t43, zwv, c37]; done), by first | (simp only [stF, stT, vS, vL, c3, c6, zw, t41, t42, t43, zwv, c37, false_or, or_false, true_or, or_true, not_false_eq_true, not_true_eq_false, and_self, and_true, true_and, and_false, false_and, ↓reduceIte]; done) | (simp only [stF, stT, vS, vL, c3, c6, zw, t41, t42, t43, zwv, c37, false_or, or_false, true_or, or_true, not_false_eq_true, not_true_eq_false, and_self, and_true, true_and, and_false, false_and, ↓reduceIte]; rfl) | (simp [stF, stT, vS, vL, c3, c6, zw, t41, t42, t43, zwv, c37]; done)⟩)
            · exact absurd (Int32.le_trans (by decide : (2 : Int32) ≤ 10) (Int32.not_lt.mp c37.1)) c59
        · refine v_eqi 0 (bI_f c37) ?_
          rw [wib_14] at c37
          refine v_if_ne C 46 dX5_sitting_40 (by decide) (fun h => absurd h (by decide)) (fun _ => ?_)
          have zn : ¬ wOk wh := fun q => q.elim c37 (fun q => c9 (by rcases q with rfl | rfl <;> decide))
          refine v_bipush C (-2) dX5_sitting_43 (by decide) ?_
          exact v_reti C hA dX5_sitting_45 rfl (⟨_, _, _, _, _, _, _, by first | (simp only [stF, stT, vS, vL, c3, c6, c9, c37, zn, false_or, or_false, true_or, or_true, not_false_eq_true, not_true_eq_false, and_self, and_true, true_and, and_false, false_and, ↓reduceIte]; done) | (simp only [stF, stT, vS, vL, c3, c6, c9, c37, zn, false_or, or_false, true_or, or_true, not_false_eq_true, not_true_eq_false, and_self, and_true, true_and, and_false, false_and, ↓reduceIte]; rfl) | (simp [stF, stT, vS, vL, c3, c6, c9, c37, zn]; done), by first | (simp only [stF, stT, vS, vL, c3, c6, c9, c37, zn, false_or, or_false, true_or, or_true, not_false_eq_true, not_true_eq_false, and_self, and_true, true_and, and_false, false_and, ↓reduceIte]; done) | (simp only [stF, stT, vS, vL, c3, c6, c9, c37, zn, false_or, or_false, true_or, or_true, not_false_eq_true, not_true_eq_false, and_self, and_true, true_and, and_false, false_and, ↓reduceIte]; rfl) | (simp [stF, stT, vS, vL, c3, c6, c9, c37, zn]; done)⟩)
    · refine v_eqi 0 (bI_f c6) ?_
      refine v_if_eq C 43 dX5_sitting_18 (by decide) (fun _ => ?_) (fun h => absurd h (by decide))
      refine v_bipush C (-2) dX5_sitting_43 (by decide) ?_
      exact v_reti C hA dX5_sitting_45 rfl (⟨_, _, _, _, _, _, _, by first | (simp only [stF, stT, vS, vL, c3, c6, false_or, or_false, true_or, or_true, not_false_eq_true, not_true_eq_false, and_self, and_true, true_and, and_false, false_and, ↓reduceIte]; done) | (simp only [stF, stT, vS, vL, c3, c6, false_or, or_false, true_or, or_true, not_false_eq_true, not_true_eq_false, and_self, and_true, true_and, and_false, false_and, ↓reduceIte]; rfl) | (simp [stF, stT, vS, vL, c3, c6]; done), by first | (simp only [stF, stT, vS, vL, c3, c6, false_or, or_false, true_or, or_true, not_false_eq_true, not_true_eq_false, and_self, and_true, true_and, and_false, false_and, ↓reduceIte]; done) | (simp only [stF, stT, vS, vL, c3, c6, false_or, or_false, true_or, or_true, not_false_eq_true, not_true_eq_false, and_self, and_true, true_and, and_false, false_and, ↓reduceIte]; rfl) | (simp [stF, stT, vS, vL, c3, c6]; done)⟩)
  · refine v_eqi 0 (bI_f c3) ?_
    refine v_if_ne C 14 dX5_sitting_9 (by decide) (fun h => absurd h (by decide)) (fun _ => ?_)
    refine v_iconst C (-1) dX5_sitting_12 (by decide) ?_
    exact v_reti C hA dX5_sitting_13 rfl (⟨_, _, _, _, _, _, _, by first | (simp only [stF, stT, vS, vL, c3, false_or, or_false, true_or, or_true, not_false_eq_true, not_true_eq_false, and_self, and_true, true_and, and_false, false_and, ↓reduceIte]; done) | (simp only [stF, stT, vS, vL, c3, false_or, or_false, true_or, or_true, not_false_eq_true, not_true_eq_false, and_self, and_true, true_and, and_false, false_and, ↓reduceIte]; rfl) | (simp [stF, stT, vS, vL, c3]; done), by first | (simp only [stF, stT, vS, vL, c3, false_or, or_false, true_or, or_true, not_false_eq_true, not_true_eq_false, and_self, and_true, true_and, and_false, false_and, ↓reduceIte]; done) | (simp only [stF, stT, vS, vL, c3, false_or, or_false, true_or, or_true, not_false_eq_true, not_true_eq_false, and_self, and_true, true_and, and_false, false_and, ↓reduceIte]; rfl) | (simp [stF, stT, vS, vL, c3]; done)⟩)
set_option maxHeartbeats 4000000 in
set_option maxRecDepth 100000 in
theorem m_X5_bribe {l : Launch} {D : va_G} {cI cB cS : ClassId} (b : Nat → Nat) (k g : Nat) (hs sl : Int32) (nj nc wl s0 st nr : Nat) (dn : Nat → Nat) (sc : Nat → Int32) (n_fa : Int32) (n_tr : Int32) (n_mi : Int32) (n_at : Int32) (n_rm : Int32) (n_rj : Int32) (n_rc : Int32) (n_nw : Int32) (n_ov : Int32) (n_rl : Int32) (n_kd : Nat → Int32) (n_ag : Nat → Int32) (n_hS : Nat → Int32) (n_iS : Nat → Int32) (n_iE : Nat → Int32) (n_de : Nat → Int32) (n_fr : Nat → Int32) (n_ho : Nat → Int32) (n_vd : Nat → Int32) (n_rw : Nat → Int32) (n_we : Nat → Int32) (n_so : Nat → Int32) (n_sl : Nat → Int32) (n_ce : Nat → Int32) (c : Int32) (q : Int32) (x : Int32) (i : Int32) (n : Int32) (hk : k < 4) (hg : g ≤ 60) (hq : vS q → q = nI k) (hso : n_so k = soF hs sl) (hsn : n_sl k = nI g) (hlv : ¬ hs = 0 → ¬ sl = -9) (hce : ∀ i, i < 60 → n_ce (60 * k + i) = sc i) (hnj : nj ≤ 5) (hnc : nc ≤ 5) (hwl : wl < 64) (hs0 : s0 < 2 ^ nj) (hst2 : st < 2 ^ nj) (hp5 : 2 ^ nj ≤ 32) (hnr : nr ≤ 8) (hhS : ∀ j, j < nj → n_hS j = bA s0 j) (hiS : ∀ j, j < nj → n_iS j = bA st j) (hde : ∀ c, c < nc → n_de c = nI (dn c) ∧ dn c < 6) : Mi l yX5_bribe cX5_bribe 10 (some .int) 5 113 D cI cB cS [.ref (b 0), .int c, .int q, .int x, .int i, .int n] [oN b n_fa n_tr n_mi (nI nj) (nI nc) (nI wl) n_at n_rm n_rj n_rc n_nw n_ov n_rl (nI nr), ia (b 9) cI 5 n_kd, ia (b 10) cI 5 n_ag, ia (b 11) cB 5 n_hS, ia (b 12) cB 5 n_iS, ia (b 26) cB 5 n_iE, ia (b 13) cI 5 n_de, ia (b 14) cI 5 n_fr, ia (b 24) cI 5 n_ho, ia (b 25) cI 6 n_vd, ia (b 28) cI 5 n_rw, ia (b 15) cI 5 n_we, ia (b 2) cI 4 n_so, ia (b 3) cI 4 n_sl, ia (b 4) cI 240 n_ce] (fun r w => ∃ (nw' : Int32) (ov' : Int32) (ho' : Nat → Int32) (vd' : Nat → Int32) (iE' : Nat → Int32) (rl' : Int32) (rw' : Nat → Int32), r = brF c q x (focF hs sl (nI g) x i n) nc (odS (fun qx => sc (i.toNatClampNeg + qx)) nc n.toNatClampNeg) (fun cx => fsF (fun yx => decide ((sitS nj n_kd n_ag st wl dn n_fr n_we n_mi (s0 ||| yx) (fun px => zN ((fun qx => sc (i.toNatClampNeg + qx)) px)) (n.toNatClampNeg)).1 cx = 1)) s0 (2 ^ nj)) ∧ w = [oN b (brT c q x (focF hs sl (nI g) x i n) nc) n_tr n_mi (nI nj) (nI nc) (nI wl) n_at n_rm n_rj n_rc nw' ov' rl' (nI nr), ia (b 9) cI 5 n_kd, ia (b 10) cI 5 n_ag, ia (b 11) cB 5 n_hS, ia (b 12) cB 5 n_iS, ia (b 26) cB 5 iE', ia (b 13) cI 5 n_de, ia (b 14) cI 5 n_fr, ia (b 24) cI 5 ho', ia (b 25) cI 6 vd', ia (b 28) cI 5 rw', ia (b 15) cI 5 n_we, ia (b 2) cI 4 n_so, ia (b 3) cI 4 n_sl, ia (b 4) cI 240 n_ce]) := by
  refine Mi.of (by decide) (Nat.le_of_ble_eq_true rfl) ?_
  intro zp ze zs zm zb zt zc zz zA hA C hnm
  refine v_lv0 [(0, .ref (b 0)), (1, .int c), (2, .int q), (3, .int x), (4, .int i), (5, .int n)] rfl ?_
  refine v_aload_n C dX5_bribe_0 0 rfl ?_
  refine v_iconst C 0 dX5_bribe_1 (by decide) ?_
  refine v_put C p_X5_68 [oN b 0 n_tr n_mi (nI nj) (nI nc) (nI wl) n_at n_rm n_rj n_rc n_nw n_ov n_rl (nI nr), ia (b 9) cI 5 n_kd, ia (b 10) cI 5 n_ag, ia (b 11) cB 5 n_hS, ia (b 12) cB 5 n_iS, ia (b 26) cB 5 n_iE, ia (b 13) cI 5 n_de, ia (b 14) cI 5 n_fr, ia (b 24) cI 5 n_ho, ia (b 25) cI 6 n_vd, ia (b 28) cI 5 n_rw, ia (b 15) cI 5 n_we, ia (b 2) cI 4 n_so, ia (b 3) cI 4 n_sl, ia (b 4) cI 240 n_ce] dX5_bribe_2 0 rfl rfl rfl (Nat.le_of_ble_eq_true rfl) rfl ?_
  refine v_aload_n C dX5_bribe_5 0 rfl ?_
  refine v_iload_n C dX5_bribe_6 1 rfl ?_
  refine v_callRi C l_X5_143 (m_X5_isCase b 0 n_tr n_mi (nI nj) (nI nc) (nI wl) n_at n_rm n_rj n_rc n_nw n_ov n_rl (nI nr) c) (by decide) dX5_bribe_7 [0] rfl 0 rfl rfl rfl (rest := []) rfl (Nat.le_of_ble_eq_true rfl) (by decide) (fun r1 h2 => ?_)
  subst h2
  by_cases c3 : ¬ c < 0 ∧ ¬ (nI nc) ≤ c
  · refine v_eqi 1 (bI_t c3) ?_
    obtain ⟨cN, hcN, rfl⟩ := ix_of' (by omega) c3
    have zcN : (nI cN).toNatClampNeg = cN := nI_clamp (by omega)
    refine v_if_eq C 20 dX5_bribe_10 (by decide) (fun h => absurd h (by decide)) (fun _ => ?_)
    refine v_iload_n C dX5_bribe_13 2 rfl ?_
    refine v_callSi C l_X5_87 (m_X5_isSheet q) (by decide) dX5_bribe_14 [] rfl rfl (rest := []) rfl (Nat.le_of_ble_eq_true rfl) (by decide) (fun r4 h5 => ?_)
    subst h5
    by_cases c6 : vSb q = true
    · refine v_eqi 1 (bI_t c6) ?_
      have eq := hq c6
      subst eq
      refine v_if_ne C 22 dX5_bribe_17 (by decide) (fun _ => ?_) (fun h => absurd h (by decide))
      refine v_iload_n C dX5_bribe_22 3 rfl ?_
      refine v_callSi C l_X5_91 (m_X5_isSort x) (by decide) dX5_bribe_23 [] rfl rfl (rest := []) rfl (Nat.le_of_ble_eq_true rfl) (by decide) (fun r7 h8 => ?_)
      subst h8
      by_cases c9 : vLb x = true
      · refine v_eqi 1 (bI_t c9) ?_
        refine v_if_ne C 32 dX5_bribe_26 (by decide) (fun _ => ?_) (fun h => absurd h (by decide))
        refine v_aload_n C dX5_bribe_32 0 rfl ?_
        refine v_iload_n C dX5_bribe_33 2 rfl ?_
        refine v_iload_n C dX5_bribe_34 3 rfl ?_
        refine v_iload C dX5_bribe_35 4 rfl ?_
        refine v_iload C dX5_bribe_37 5 rfl ?_
        refine v_callMi C l_X5_183 (m_X5_layRow b k g hs sl nc sc 0 n_tr n_mi (nI nj) (nI wl) n_at n_rm n_rj n_rc n_nw n_ov n_rl (nI nr) n_so n_sl n_ce n_rw x i n hnc (pow5 hnc) (by assumption) (by assumption) (by assumption) (by assumption) (by assumption) (by assumption)) (by decide) dX5_bribe_39 [0, 12, 13, 14, 10] [1, 2, 3, 4, 5, 6, 7, 8, 9, 11] (wr := [ia (b 9) cI 5 n_kd, ia (b 10) cI 5 n_ag, ia (b 11) cB 5 n_hS, ia (b 12) cB 5 n_iS, ia (b 26) cB 5 n_iE, ia (b 13) cI 5 n_de, ia (b 14) cI 5 n_fr, ia (b 24) cI 5 n_ho, ia (b 25) cI 6 n_vd, ia (b 15) cI 5 n_we]) (by decide) rfl rfl (by decide) (by decide) 0 rfl rfl rfl (rest := []) rfl (Nat.le_of_ble_eq_true rfl) (by decide) (fun r12 w10 h11 => ?_)
        rcases h11 with ⟨t13, rfl, rfl⟩ | ⟨t13, t14, rfl, rfl⟩ | ⟨t13, t14, t15, rfl, rw_20, rfl⟩ | ⟨t13, t14, rfl, m18, rw_19, t15, t16, rfl, hof17⟩
        · refine v_ws0 [ia (b 9) cI 5 n_kd, ia (b 10) cI 5 n_ag, ia (b 11) cB 5 n_hS, ia (b 12) cB 5 n_iS, ia (b 26) cB 5 n_iE, ia (b 13) cI 5 n_de, ia (b 14) cI 5 n_fr, ia (b 24) cI 5 n_ho, ia (b 25) cI 6 n_vd, ia (b 15) cI 5 n_we, oN b (focF hs sl (nI g) x i n) n_tr n_mi (nI nj) (nI nc) (nI wl) n_at n_rm n_rj n_rc n_nw n_ov n_rl (nI nr), ia (b 2) cI 4 n_so, ia (b 3) cI 4 n_sl, ia (b 4) cI 240 n_ce, ia (b 28) cI 5 n_rw] rfl ?_
          refine v_istore C [(6, .int ((-10) - focF hs sl (nI g) x i n)), (0, .ref (b 0)), (1, .int (nI cN)), (2, .int (nI k)), (3, .int x), (4, .int i), (5, .int n)] dX5_bribe_42 (by decide) rfl ?_
          refine v_iload C dX5_bribe_44 0 rfl ?_
          refine v_if_eq C 52 dX5_bribe_46 (by decide) (fun c21 => ?_) (fun c21 => ?_)
          · exact absurd c21 foc_ne
          · refine v_iload C dX5_bribe_49 0 rfl ?_
            refine v_perm (ws' := [oN b (focF hs sl (nI g) x i n) n_tr n_mi (nI nj) (nI nc) (nI wl) n_at n_rm n_rj n_rc n_nw n_ov n_rl (nI nr), ia (b 9) cI 5 n_kd, ia (b 10) cI 5 n_ag, ia (b 11) cB 5 n_hS, ia (b 12) cB 5 n_iS, ia (b 26) cB 5 n_iE, ia (b 13) cI 5 n_de, ia (b 14) cI 5 n_fr, ia (b 24) cI 5 n_ho, ia (b 25) cI 6 n_vd, ia (b 28) cI 5 n_rw, ia (b 15) cI 5 n_we, ia (b 2) cI 4 n_so, ia (b 3) cI 4 n_sl, ia (b 4) cI 240 n_ce]) [10, 0, 1, 2, 3, 4, 5, 6, 7, 8, 14, 9, 11, 12, 13] (by decide) rfl ?_
            exact v_reti C hA dX5_bribe_51 rfl (⟨_, _, _, _, _, _, _, by first | (simp only [brF, brT, vS, vL, c3, c6, c9, t13, zcN, false_or, or_false, true_or, or_true, not_false_eq_true, not_true_eq_false, and_self, and_true, true_and, and_false, false_and, ↓reduceIte]; done) | (simp only [brF, brT, vS, vL, c3, c6, c9, t13, zcN, false_or, or_false, true_or, or_true, not_false_eq_true, not_true_eq_false, and_self, and_true, true_and, and_false, false_and, ↓reduceIte]; rfl) | (simp [brF, brT, vS, vL, c3, c6, c9, t13, zcN]; done), by first | (simp only [brF, brT, vS, vL, c3, c6, c9, t13, zcN, false_or, or_false, true_or, or_true, not_false_eq_true, not_true_eq_false, and_self, and_true, true_and, and_false, false_and, ↓reduceIte]; done) | (simp only [brF, brT, vS, vL, c3, c6, c9, t13, zcN, false_or, or_false, true_or, or_true, not_false_eq_true, not_true_eq_false, and_self, and_true, true_and, and_false, false_and, ↓reduceIte]; rfl) | (simp [brF, brT, vS, vL, c3, c6, c9, t13, zcN]; done)⟩)
        · refine v_ws0 [ia (b 9) cI 5 n_kd, ia (b 10) cI 5 n_ag, ia (b 11) cB 5 n_hS, ia (b 12) cB 5 n_iS, ia (b 26) cB 5 n_iE, ia (b 13) cI 5 n_de, ia (b 14) cI 5 n_fr, ia (b 24) cI 5 n_ho, ia (b 25) cI 6 n_vd, ia (b 15) cI 5 n_we, oN b 0 n_tr n_mi (nI nj) (nI nc) (nI wl) n_at n_rm n_rj n_rc n_nw n_ov n_rl (nI nr), ia (b 2) cI 4 n_so, ia (b 3) cI 4 n_sl, ia (b 4) cI 240 n_ce, ia (b 28) cI 5 n_rw] rfl ?_
          refine v_istore C [(6, .int (-3)), (0, .ref (b 0)), (1, .int (nI cN)), (2, .int (nI k)), (3, .int x), (4, .int i), (5, .int n)] dX5_bribe_42 (by decide) rfl ?_
          refine v_iload C dX5_bribe_44 0 rfl ?_
          refine v_if_eq C 52 dX5_bribe_46 (by decide) (fun h => absurd h (by decide)) (fun _ => ?_)
          refine v_iload C dX5_bribe_49 0 rfl ?_
          refine v_perm (ws' := [oN b 0 n_tr n_mi (nI nj) (nI nc) (nI wl) n_at n_rm n_rj n_rc n_nw n_ov n_rl (nI nr), ia (b 9) cI 5 n_kd, ia (b 10) cI 5 n_ag, ia (b 11) cB 5 n_hS, ia (b 12) cB 5 n_iS, ia (b 26) cB 5 n_iE, ia (b 13) cI 5 n_de, ia (b 14) cI 5 n_fr, ia (b 24) cI 5 n_ho, ia (b 25) cI 6 n_vd, ia (b 28) cI 5 n_rw, ia (b 15) cI 5 n_we, ia (b 2) cI 4 n_so, ia (b 3) cI 4 n_sl, ia (b 4) cI 240 n_ce]) [10, 0, 1, 2, 3, 4, 5, 6, 7, 8, 14, 9, 11, 12, 13] (by decide) rfl ?_
          exact v_reti C hA dX5_bribe_51 rfl (⟨_, _, _, _, _, _, _, by first | (simp only [brF, brT, vS, vL, c3, c6, c9, t13, t14, zcN, false_or, or_false, true_or, or_true, not_false_eq_true, not_true_eq_false, and_self, and_true, true_and, and_false, false_and, ↓reduceIte]; done) | (simp only [brF, brT, vS, vL, c3, c6, c9, t13, t14, zcN, false_or, or_false, true_or, or_true, not_false_eq_true, not_true_eq_false, and_self, and_true, true_and, and_false, false_and, ↓reduceIte]; rfl) | (simp [brF, brT, vS, vL, c3, c6, c9, t13, t14, zcN]; done), by first | (simp only [brF, brT, vS, vL, c3, c6, c9, t13, t14, zcN, false_or, or_false, true_or, or_true, not_false_eq_true, not_true_eq_false, and_self, and_true, true_and, and_false, false_and, ↓reduceIte]; done) | (simp only [brF, brT, vS, vL, c3, c6, c9, t13, t14, zcN, false_or, or_false, true_or, or_true, not_false_eq_true, not_true_eq_false, and_self, and_true, true_and, and_false, false_and, ↓reduceIte]; rfl) | (simp [brF, brT, vS, vL, c3, c6, c9, t13, t14, zcN]; done)⟩)
        · refine v_ws0 [ia (b 9) cI 5 n_kd, ia (b 10) cI 5 n_ag, ia (b 11) cB 5 n_hS, ia (b 12) cB 5 n_iS, ia (b 26) cB 5 n_iE, ia (b 13) cI 5 n_de, ia (b 14) cI 5 n_fr, ia (b 24) cI 5 n_ho, ia (b 25) cI 6 n_vd, ia (b 15) cI 5 n_we, oN b 0 n_tr n_mi (nI nj) (nI nc) (nI wl) n_at n_rm n_rj n_rc n_nw n_ov n_rl (nI nr), ia (b 2) cI 4 n_so, ia (b 3) cI 4 n_sl, ia (b 4) cI 240 n_ce, ia (b 28) cI 5 rw_20] rfl ?_
          refine v_istore C [(6, .int (-1)), (0, .ref (b 0)), (1, .int (nI cN)), (2, .int (nI k)), (3, .int x), (4, .int i), (5, .int n)] dX5_bribe_42 (by decide) rfl ?_
          refine v_iload C dX5_bribe_44 0 rfl ?_
          refine v_if_eq C 52 dX5_bribe_46 (by decide) (fun h => absurd h (by decide)) (fun _ => ?_)
          refine v_iload C dX5_bribe_49 0 rfl ?_
          refine v_perm (ws' := [oN b 0 n_tr n_mi (nI nj) (nI nc) (nI wl) n_at n_rm n_rj n_rc n_nw n_ov n_rl (nI nr), ia (b 9) cI 5 n_kd, ia (b 10) cI 5 n_ag, ia (b 11) cB 5 n_hS, ia (b 12) cB 5 n_iS, ia (b 26) cB 5 n_iE, ia (b 13) cI 5 n_de, ia (b 14) cI 5 n_fr, ia (b 24) cI 5 n_ho, ia (b 25) cI 6 n_vd, ia (b 28) cI 5 rw_20, ia (b 15) cI 5 n_we, ia (b 2) cI 4 n_so, ia (b 3) cI 4 n_sl, ia (b 4) cI 240 n_ce]) [10, 0, 1, 2, 3, 4, 5, 6, 7, 8, 14, 9, 11, 12, 13] (by decide) rfl ?_
          exact v_reti C hA dX5_bribe_51 rfl (⟨_, _, _, _, _, _, _, by first | (simp only [brF, brT, vS, vL, c3, c6, c9, t13, t14, t15, zcN, false_or, or_false, true_or, or_true, not_false_eq_true, not_true_eq_false, and_self, and_true, true_and, and_false, false_and, ↓reduceIte]; done) | (simp only [brF, brT, vS, vL, c3, c6, c9, t13, t14, t15, zcN, false_or, or_false, true_or, or_true, not_false_eq_true, not_true_eq_false, and_self, and_true, true_and, and_false, false_and, ↓reduceIte]; rfl) | (simp [brF, brT, vS, vL, c3, c6, c9, t13, t14, t15, zcN]; done), by first | (simp only [brF, brT, vS, vL, c3, c6, c9, t13, t14, t15, zcN, false_or, or_false, true_or, or_true, not_false_eq_true, not_true_eq_false, and_self, and_true, true_and, and_false, false_and, ↓reduceIte]; done) | (simp only [brF, brT, vS, vL, c3, c6, c9, t13, t14, t15, zcN, false_or, or_false, true_or, or_true, not_false_eq_true, not_true_eq_false, and_self, and_true, true_and, and_false, false_and, ↓reduceIte]; rfl) | (simp [brF, brT, vS, vL, c3, c6, c9, t13, t14, t15, zcN]; done)⟩)
        · refine v_ws0 [ia (b 9) cI 5 n_kd, ia (b 10) cI 5 n_ag, ia (b 11) cB 5 n_hS, ia (b 12) cB 5 n_iS, ia (b 26) cB 5 n_iE, ia (b 13) cI 5 n_de, ia (b 14) cI 5 n_fr, ia (b 24) cI 5 n_ho, ia (b 25) cI 6 n_vd, ia (b 15) cI 5 n_we, oN b 0 n_tr n_mi (nI nj) (nI nc) (nI wl) n_at n_rm n_rj n_rc n_nw n_ov (nI (n.toNatClampNeg)) (nI nr), ia (b 2) cI 4 n_so, ia (b 3) cI 4 n_sl, ia (b 4) cI 240 n_ce, ia (b 28) cI 5 rw_19] rfl ?_
          refine v_istore C [(6, .int 0), (0, .ref (b 0)), (1, .int (nI cN)), (2, .int (nI k)), (3, .int x), (4, .int i), (5, .int n)] dX5_bribe_42 (by decide) rfl ?_
          refine v_iload C dX5_bribe_44 0 rfl ?_
          refine v_if_eq C 52 dX5_bribe_46 (by decide) (fun _ => ?_) (fun h => absurd h (by decide))
          refine v_aload_n C dX5_bribe_52 1 rfl ?_
          refine v_callRi C l_X5_202 (m_X5_sweets b nj s0 0 n_tr n_mi (nI nc) (nI wl) n_at n_rm n_rj n_rc n_nw n_ov (nI (n.toNatClampNeg)) (nI nr) n_hS (by assumption) (by assumption) (by assumption)) (by decide) dX5_bribe_53 [10, 2] rfl 10 rfl rfl rfl (rest := []) rfl (Nat.le_of_ble_eq_true rfl) (by decide) (fun r22 h23 => ?_)
          subst h23
          refine v_istore C [(7, .int (nI s0)), (6, .int 0), (0, .ref (b 0)), (1, .int (nI cN)), (2, .int (nI k)), (3, .int x), (4, .int i), (5, .int n)] dX5_bribe_56 (by decide) rfl ?_
          refine v_bipush C (-9) dX5_bribe_58 (by decide) ?_
          refine v_istore C [(8, .int (-9)), (7, .int (nI s0)), (6, .int 0), (0, .ref (b 0)), (1, .int (nI cN)), (2, .int (nI k)), (3, .int x), (4, .int i), (5, .int n)] dX5_bribe_60 (by decide) rfl ?_
          refine v_iconst C 0 dX5_bribe_62 (by decide) ?_
          refine v_istore C [(9, .int 0), (8, .int (-9)), (7, .int (nI s0)), (6, .int 0), (0, .ref (b 0)), (1, .int (nI cN)), (2, .int (nI k)), (3, .int x), (4, .int i), (5, .int n)] dX5_bribe_63 (by decide) rfl ?_
          refine v_perm (ws' := [oN b 0 n_tr n_mi (nI nj) (nI nc) (nI wl) n_at n_rm n_rj n_rc n_nw n_ov (nI (n.toNatClampNeg)) (nI nr), ia (b 9) cI 5 n_kd, ia (b 10) cI 5 n_ag, ia (b 11) cB 5 n_hS, ia (b 12) cB 5 n_iS, ia (b 26) cB 5 n_iE, ia (b 13) cI 5 n_de, ia (b 14) cI 5 n_fr, ia (b 24) cI 5 n_ho, ia (b 25) cI 6 n_vd, ia (b 28) cI 5 rw_19, ia (b 15) cI 5 n_we, ia (b 2) cI 4 n_so, ia (b 3) cI 4 n_sl, ia (b 4) cI 240 n_ce]) [10, 0, 1, 2, 3, 4, 5, 6, 7, 8, 14, 9, 11, 12, 13] (by decide) rfl ?_
          have lp : ∀ (n_25 : Nat) (y : Nat) (fe : Int32) (nw1 : Int32) (ov1 : Int32) (ho1 : Nat → Int32) (vd1 : Nat → Int32) (iE1 : Nat → Int32) (hS1 : Nat → Int32), 2 ^ nj - y < n_25 → (y ≤ 2 ^ nj) → (fsF (fun yx => decide ((sitS nj n_kd n_ag st wl dn n_fr n_we n_mi (s0 ||| yx) (fun px => zN ((fun qx => sc (i.toNatClampNeg + qx)) px)) (n.toNatClampNeg)).1 cN = 1)) s0 y = fe) → (fe = -9 ∨ ∃ f, f < 64 ∧ fe = nI f) → (∀ v, tbF v hS1 nj = tbF v n_hS nj) → V zp l ze (rmOf 5 113) zs zm [.ref (b 0), .int (nI cN), .int (nI k), .int x, .int i, .int n].toArray zb zt zc D (IM zA zs) (QMi zb [.ref (b 0), .int (nI cN), .int (nI k), .int x, .int i, .int n].toArray zs D cI cB cS [oN b n_fa n_tr n_mi (nI nj) (nI nc) (nI wl) n_at n_rm n_rj n_rc n_nw n_ov n_rl (nI nr), ia (b 9) cI 5 n_kd, ia (b 10) cI 5 n_ag, ia (b 11) cB 5 n_hS, ia (b 12) cB 5 n_iS, ia (b 26) cB 5 n_iE, ia (b 13) cI 5 n_de, ia (b 14) cI 5 n_fr, ia (b 24) cI 5 n_ho, ia (b 25) cI 6 n_vd, ia (b 28) cI 5 n_rw, ia (b 15) cI 5 n_we, ia (b 2) cI 4 n_so, ia (b 3) cI 4 n_sl, ia (b 4) cI 240 n_ce] zz (fun r w => ∃ (nw' : Int32) (ov' : Int32) (ho' : Nat → Int32) (vd' : Nat → Int32) (iE' : Nat → Int32) (rl' : Int32) (rw' : Nat → Int32), r = brF (nI cN) (nI k) x (focF hs sl (nI g) x i n) nc (odS (fun qx => sc (i.toNatClampNeg + qx)) nc n.toNatClampNeg) (fun cx => fsF (fun yx => decide ((sitS nj n_kd n_ag st wl dn n_fr n_we n_mi (s0 ||| yx) (fun px => zN ((fun qx => sc (i.toNatClampNeg + qx)) px)) (n.toNatClampNeg)).1 cx = 1)) s0 (2 ^ nj)) ∧ w = [oN b (brT (nI cN) (nI k) x (focF hs sl (nI g) x i n) nc) n_tr n_mi (nI nj) (nI nc) (nI wl) n_at n_rm n_rj n_rc nw' ov' rl' (nI nr), ia (b 9) cI 5 n_kd, ia (b 10) cI 5 n_ag, ia (b 11) cB 5 n_hS, ia (b 12) cB 5 n_iS, ia (b 26) cB 5 iE', ia (b 13) cI 5 n_de, ia (b 14) cI 5 n_fr, ia (b 24) cI 5 ho', ia (b 25) cI 6 vd', ia (b 28) cI 5 rw', ia (b 15) cI 5 n_we, ia (b 2) cI 4 n_so, ia (b 3) cI 4 n_sl, ia (b 4) cI 240 n_ce])) 0 0 10 [oN b 0 n_tr n_mi (nI nj) (nI nc) (nI wl) n_at n_rm n_rj n_rc nw1 ov1 (nI (n.toNatClampNeg)) (nI nr), ia (b 9) cI 5 n_kd, ia (b 10) cI 5 n_ag, ia (b 11) cB 5 hS1, ia (b 12) cB 5 n_iS, ia (b 26) cB 5 iE1, ia (b 13) cI 5 n_de, ia (b 14) cI 5 n_fr, ia (b 24) cI 5 ho1, ia (b 25) cI 6 vd1, ia (b 28) cI 5 rw_19, ia (b 15) cI 5 n_we, ia (b 2) cI 4 n_so, ia (b 3) cI 4 n_sl, ia (b 4) cI 240 n_ce] [(9, .int (nI y)), (8, .int fe), (7, .int (nI s0)), (0, .ref (b 0)), (1, .int (nI cN))] 65 [] := by
            intro n_25
            induction n_25 with
            | zero => intro y fe nw1 ov1 ho1 vd1 iE1 hS1 b24; exact absurd b24 (by omega)
            | succ n_25 ihn_25 =>
              intro y fe nw1 ov1 ho1 vd1 iE1 hS1 b24 hy hfs hfe hti
              refine v_iload C dX5_bribe_65 0 rfl ?_
              refine v_iconst C 1 dX5_bribe_67 (by decide) ?_
              refine v_aload_n C dX5_bribe_68 3 rfl ?_
              refine v_get C f_X5_78 dX5_bribe_69 0 rfl rfl ?_
              refine v_ishl C dX5_bribe_72 ?_
              refine v_eqi (nI (2 ^ nj)) (raw_sh nj (by omega)) ?_
              refine v_icmp_ge C 142 dX5_bribe_73 (by decide) (fun c26 => ?_) (fun c26 => ?_)
              · have nc26 : (2 ^ nj) ≤ y := nI_leD c26 (by omega)
                have hye : y = 2 ^ nj := by omega
                rw [hye] at hfs
                refine v_aload_n C dX5_bribe_142 3 rfl ?_
                refine v_iload C dX5_bribe_143 2 rfl ?_
                refine v_callMv C l_X5_208 (m_X5_laySweets b nj s0 0 n_tr n_mi (nI nc) (nI wl) n_at n_rm n_rj n_rc nw1 ov1 (nI (n.toNatClampNeg)) (nI nr) hS1 (by assumption) (by omega)) (by decide) dX5_bribe_145 [0, 3] [1, 2, 4, 5, 6, 7, 8, 9, 10, 11, 12, 13, 14] (wr := [ia (b 9) cI 5 n_kd, ia (b 10) cI 5 n_ag, ia (b 12) cB 5 n_iS, ia (b 26) cB 5 iE1, ia (b 13) cI 5 n_de, ia (b 14) cI 5 n_fr, ia (b 24) cI 5 ho1, ia (b 25) cI 6 vd1, ia (b 28) cI 5 rw_19, ia (b 15) cI 5 n_we, ia (b 2) cI 4 n_so, ia (b 3) cI 4 n_sl, ia (b 4) cI 240 n_ce]) (by decide) rfl rfl (by decide) (by decide) 0 rfl rfl rfl (rest := []) rfl (Nat.le_of_ble_eq_true rfl) (by decide) (fun w27 h28 => ?_)
                subst h28
                refine v_ws0 [ia (b 9) cI 5 n_kd, ia (b 10) cI 5 n_ag, ia (b 12) cB 5 n_iS, ia (b 26) cB 5 iE1, ia (b 13) cI 5 n_de, ia (b 14) cI 5 n_fr, ia (b 24) cI 5 ho1, ia (b 25) cI 6 vd1, ia (b 28) cI 5 rw_19, ia (b 15) cI 5 n_we, ia (b 2) cI 4 n_so, ia (b 3) cI 4 n_sl, ia (b 4) cI 240 n_ce, oN b 0 n_tr n_mi (nI nj) (nI nc) (nI wl) n_at n_rm n_rj n_rc nw1 ov1 (nI (n.toNatClampNeg)) (nI nr), ia (b 11) cB 5 (tbF (bA s0) hS1 nj)] rfl ?_
                refine v_ws0 [ia (b 9) cI 5 n_kd, ia (b 10) cI 5 n_ag, ia (b 12) cB 5 n_iS, ia (b 26) cB 5 iE1, ia (b 13) cI 5 n_de, ia (b 14) cI 5 n_fr, ia (b 24) cI 5 ho1, ia (b 25) cI 6 vd1, ia (b 28) cI 5 rw_19, ia (b 15) cI 5 n_we, ia (b 2) cI 4 n_so, ia (b 3) cI 4 n_sl, ia (b 4) cI 240 n_ce, oN b 0 n_tr n_mi (nI nj) (nI nc) (nI wl) n_at n_rm n_rj n_rc nw1 ov1 (nI (n.toNatClampNeg)) (nI nr), ia (b 11) cB 5 n_hS] (by rw [hti, tbF_id hhS]) ?_
                refine v_iload C dX5_bribe_148 1 rfl ?_
                refine v_perm (ws' := [oN b 0 n_tr n_mi (nI nj) (nI nc) (nI wl) n_at n_rm n_rj n_rc nw1 ov1 (nI (n.toNatClampNeg)) (nI nr), ia (b 9) cI 5 n_kd, ia (b 10) cI 5 n_ag, ia (b 11) cB 5 n_hS, ia (b 12) cB 5 n_iS, ia (b 26) cB 5 iE1, ia (b 13) cI 5 n_de, ia (b 14) cI 5 n_fr, ia (b 24) cI 5 ho1, ia (b 25) cI 6 vd1, ia (b 28) cI 5 rw_19, ia (b 15) cI 5 n_we, ia (b 2) cI 4 n_so, ia (b 3) cI 4 n_sl, ia (b 4) cI 240 n_ce]) [13, 0, 1, 14, 2, 3, 4, 5, 6, 7, 8, 9, 10, 11, 12] (by decide) rfl ?_
                exact v_reti C hA dX5_bribe_150 rfl (⟨_, _, _, _, _, _, _, by first | (simp only [brF, brT, vS, vL, c3, c6, c9, t13, t14, t15, hfs, zcN, false_or, or_false, true_or, or_true, not_false_eq_true, not_true_eq_false, and_self, and_true, true_and, and_false, false_and, ↓reduceIte]; done) | (simp only [brF, brT, vS, vL, c3, c6, c9, t13, t14, t15, hfs, zcN, false_or, or_false, true_or, or_true, not_false_eq_true, not_true_eq_false, and_self, and_true, true_and, and_false, false_and, ↓reduceIte]; rfl) | (simp [brF, brT, vS, vL, c3, c6, c9, t13, t14, t15, hfs, zcN]; done), by first | (simp only [brF, brT, vS, vL, c3, c6, c9, t13, t14, t15, hfs, zcN, false_or, or_false, true_or, or_true, not_false_eq_true, not_true_eq_false, and_self, and_true, true_and, and_false, false_and, ↓reduceIte]; done) | (simp only [brF, brT, vS, vL, c3, c6, c9, t13, t14, t15, hfs, zcN, false_or, or_false, true_or, or_true, not_false_eq_true, not_true_eq_false, and_self, and_true, true_and, and_false, false_and, ↓reduceIte]; rfl) | (simp [brF, brT, vS, vL, c3, c6, c9, t13, t14, t15, hfs, zcN]; done)⟩)
              · have nc26 : y < (2 ^ nj) := nI_ltD c26 (by omega)
                have hlt : y &&& s0 < 64 := Nat.lt_of_le_of_lt Nat.and_le_left (by omega)
                have hor : s0 ||| y < 2 ^ nj := Nat.or_lt_two_pow hs0 (by omega)
                refine v_iload C dX5_bribe_76 0 rfl ?_
                refine v_iload C dX5_bribe_78 2 rfl ?_
                refine v_iand C dX5_bribe_80 ?_
                refine v_eqi (nI (y &&& s0)) (raw_and2 y (by omega) s0 (by omega)) ?_
                refine v_if_ne C 136 dX5_bribe_81 (by decide) (fun c30 => ?_) (fun c30 => ?_)
                · have nc30 : (y &&& s0) ≠ 0 := fun q => c30 (by rw [q] <;> rfl)
                  refine v_iinc C (nI (y + 1)) [(9, .int (nI (y + 1))), (8, .int fe), (7, .int (nI s0)), (0, .ref (b 0)), (1, .int (nI cN))] 0 dX5_bribe_136 rfl (nI_inc _) (by decide) rfl ?_
                  refine v_goto C 65 dX5_bribe_139 (by decide) ?_
                  exact ihn_25 (y + 1) fe nw1 ov1 ho1 vd1 iE1 hS1 (by omega) (by omega) (by rw [fsF, if_neg (fun q => nc30 q.1)]; exact hfs) hfe hti
                · have nc30 : (y &&& s0) = 0 := nI_eqP c30 (by omega) (by omega)
                  refine v_iload C dX5_bribe_84 1 rfl ?_
                  refine v_bipush C (-9) dX5_bribe_86 (by decide) ?_
                  refine v_icmp_eq C 104 dX5_bribe_88 (by decide) (fun c31 => ?_) (fun c31 => ?_)
                  · refine v_aload_n C dX5_bribe_104 3 rfl ?_
                    refine v_iload C dX5_bribe_105 2 rfl ?_
                    refine v_iload C dX5_bribe_107 0 rfl ?_
                    refine v_ior C dX5_bribe_109 ?_
                    refine v_eqi (nI (s0 ||| y)) (raw_or2 s0 (by omega) y (by omega)) ?_
                    refine v_callMv C l_X5_208 (m_X5_laySweets b nj (s0 ||| y) 0 n_tr n_mi (nI nc) (nI wl) n_at n_rm n_rj n_rc nw1 ov1 (nI (n.toNatClampNeg)) (nI nr) hS1 (by assumption) (by omega)) (by decide) dX5_bribe_110 [0, 3] [1, 2, 4, 5, 6, 7, 8, 9, 10, 11, 12, 13, 14] (wr := [ia (b 9) cI 5 n_kd, ia (b 10) cI 5 n_ag, ia (b 12) cB 5 n_iS, ia (b 26) cB 5 iE1, ia (b 13) cI 5 n_de, ia (b 14) cI 5 n_fr, ia (b 24) cI 5 ho1, ia (b 25) cI 6 vd1, ia (b 28) cI 5 rw_19, ia (b 15) cI 5 n_we, ia (b 2) cI 4 n_so, ia (b 3) cI 4 n_sl, ia (b 4) cI 240 n_ce]) (by decide) rfl rfl (by decide) (by decide) 0 rfl rfl rfl (rest := []) rfl (Nat.le_of_ble_eq_true rfl) (by decide) (fun w32 h33 => ?_)
                    subst h33
                    refine v_ws0 [ia (b 9) cI 5 n_kd, ia (b 10) cI 5 n_ag, ia (b 12) cB 5 n_iS, ia (b 26) cB 5 iE1, ia (b 13) cI 5 n_de, ia (b 14) cI 5 n_fr, ia (b 24) cI 5 ho1, ia (b 25) cI 6 vd1, ia (b 28) cI 5 rw_19, ia (b 15) cI 5 n_we, ia (b 2) cI 4 n_so, ia (b 3) cI 4 n_sl, ia (b 4) cI 240 n_ce, oN b 0 n_tr n_mi (nI nj) (nI nc) (nI wl) n_at n_rm n_rj n_rc nw1 ov1 (nI (n.toNatClampNeg)) (nI nr), ia (b 11) cB 5 (tbF (bA (s0 ||| y)) hS1 nj)] rfl ?_
                    refine v_aload_n C dX5_bribe_113 3 rfl ?_
                    refine v_callMv C l_X5_176 (m_X5_goRow b wl nj nc (s0 ||| y) st n.toNatClampNeg (fun px => zN ((fun qx => sc (i.toNatClampNeg + qx)) px)) dn n_we 0 n_tr n_mi n_at n_rm n_rj n_rc nw1 ov1 (nI nr) n_kd n_ag (tbF (bA (s0 ||| y)) hS1 nj) n_iS iE1 n_de n_fr ho1 vd1 rw_19 (by assumption) (by assumption) (by assumption) (fun j hj => tbF_in hj) (by assumption) (by assumption) t16 (fun p hp => ⟨by rw [hof17 p hp]; exact (odS_ok hnc t15 p hp).1, (odS_ok hnc t15 p hp).2⟩)) (by decide) dX5_bribe_114 [13, 0, 1, 14, 2, 3, 4, 5, 6, 7, 8] [9, 10, 11, 12] (wr := [ia (b 15) cI 5 n_we, ia (b 2) cI 4 n_so, ia (b 3) cI 4 n_sl, ia (b 4) cI 240 n_ce]) (by decide) rfl rfl (by decide) (by decide) 13 rfl rfl rfl (rest := []) rfl (Nat.le_of_ble_eq_true rfl) (by decide) (fun w35 h36 => ?_)
                    obtain ⟨nw_38, ov_39, ho_40, vd_41, iE_42, rfl, hs43⟩ := h36
                    refine v_ws0 [ia (b 15) cI 5 n_we, ia (b 2) cI 4 n_so, ia (b 3) cI 4 n_sl, ia (b 4) cI 240 n_ce, oN b 0 n_tr n_mi (nI nj) (nI nc) (nI wl) n_at n_rm n_rj n_rc nw_38 ov_39 (nI (n.toNatClampNeg)) (nI nr), ia (b 9) cI 5 n_kd, ia (b 10) cI 5 n_ag, ia (b 11) cB 5 (tbF (bA (s0 ||| y)) hS1 nj), ia (b 12) cB 5 n_iS, ia (b 26) cB 5 iE_42, ia (b 13) cI 5 n_de, ia (b 14) cI 5 n_fr, ia (b 24) cI 5 ho_40, ia (b 25) cI 6 vd_41, ia (b 28) cI 5 rw_19] rfl ?_
                    refine v_aload_n C dX5_bribe_117 3 rfl ?_
                    refine v_get C f_X5_47 dX5_bribe_118 4 rfl rfl ?_
                    refine v_iload_n C dX5_bribe_121 4 rfl ?_
                    refine v_ialdN C dX5_bribe_122 12 rfl cN rfl (by omega) (by decide) ?_
                    refine v_eqi ((sitS nj n_kd n_ag st wl dn n_fr n_we n_mi (s0 ||| y) (fun px => zN ((fun qx => sc (i.toNatClampNeg + qx)) px)) (n.toNatClampNeg)).1 cN) (hs43.2.2.1 cN hcN) ?_
                    refine v_iconst C 1 dX5_bribe_123 (by decide) ?_
                    refine v_icmp_ne C 132 dX5_bribe_124 (by decide) (fun c44 => ?_) (fun c44 => ?_)
                    · refine v_iload C dX5_bribe_132 0 rfl ?_
                      refine v_istore C [(8, .int (nI y)), (9, .int (nI y)), (7, .int (nI s0)), (0, .ref (b 0)), (1, .int (nI cN))] dX5_bribe_134 (by decide) rfl ?_
                      refine v_iinc C (nI (y + 1)) [(9, .int (nI (y + 1))), (8, .int (nI y)), (7, .int (nI s0)), (0, .ref (b 0)), (1, .int (nI cN))] 1 dX5_bribe_136 rfl (nI_inc _) (by decide) rfl ?_
                      refine v_goto C 65 dX5_bribe_139 (by decide) ?_
                      refine v_perm (ws' := [oN b 0 n_tr n_mi (nI nj) (nI nc) (nI wl) n_at n_rm n_rj n_rc nw_38 ov_39 (nI (n.toNatClampNeg)) (nI nr), ia (b 9) cI 5 n_kd, ia (b 10) cI 5 n_ag, ia (b 11) cB 5 (tbF (bA (s0 ||| y)) hS1 nj), ia (b 12) cB 5 n_iS, ia (b 26) cB 5 iE_42, ia (b 13) cI 5 n_de, ia (b 14) cI 5 n_fr, ia (b 24) cI 5 ho_40, ia (b 25) cI 6 vd_41, ia (b 28) cI 5 rw_19, ia (b 15) cI 5 n_we, ia (b 2) cI 4 n_so, ia (b 3) cI 4 n_sl, ia (b 4) cI 240 n_ce]) [4, 5, 6, 7, 8, 9, 10, 11, 12, 13, 14, 0, 1, 2, 3] (by decide) rfl ?_
                      exact ihn_25 (y + 1) (nI y) nw_38 ov_39 ho_40 vd_41 iE_42 (tbF (bA (s0 ||| y)) hS1 nj) (by omega) (by omega) (by rw [fsF, hfs, if_pos ⟨nc30, Or.inl c31⟩, if_neg (fun q => c44 (of_decide_eq_true q))]) (Or.inr ⟨y, by omega, rfl⟩) (fun v => by rw [tbF_tbF v, hti])
                    · refine v_iload C dX5_bribe_127 1 rfl ?_
                      refine v_goto C 134 dX5_bribe_129 (by decide) ?_
                      refine v_istore C [(8, .int fe), (9, .int (nI y)), (7, .int (nI s0)), (0, .ref (b 0)), (1, .int (nI cN))] dX5_bribe_134 (by decide) rfl ?_
                      refine v_iinc C (nI (y + 1)) [(9, .int (nI (y + 1))), (8, .int fe), (7, .int (nI s0)), (0, .ref (b 0)), (1, .int (nI cN))] 1 dX5_bribe_136 rfl (nI_inc _) (by decide) rfl ?_
                      refine v_goto C 65 dX5_bribe_139 (by decide) ?_
                      refine v_perm (ws' := [oN b 0 n_tr n_mi (nI nj) (nI nc) (nI wl) n_at n_rm n_rj n_rc nw_38 ov_39 (nI (n.toNatClampNeg)) (nI nr), ia (b 9) cI 5 n_kd, ia (b 10) cI 5 n_ag, ia (b 11) cB 5 (tbF (bA (s0 ||| y)) hS1 nj), ia (b 12) cB 5 n_iS, ia (b 26) cB 5 iE_42, ia (b 13) cI 5 n_de, ia (b 14) cI 5 n_fr, ia (b 24) cI 5 ho_40, ia (b 25) cI 6 vd_41, ia (b 28) cI 5 rw_19, ia (b 15) cI 5 n_we, ia (b 2) cI 4 n_so, ia (b 3) cI 4 n_sl, ia (b 4) cI 240 n_ce]) [4, 5, 6, 7, 8, 9, 10, 11, 12, 13, 14, 0, 1, 2, 3] (by decide) rfl ?_
                      exact ihn_25 (y + 1) fe nw_38 ov_39 ho_40 vd_41 iE_42 (tbF (bA (s0 ||| y)) hS1 nj) (by omega) (by omega) (by rw [fsF, hfs, if_pos ⟨nc30, Or.inl c31⟩, if_pos (decide_eq_true c44)]) hfe (fun v => by rw [tbF_tbF v, hti])
                  · obtain ⟨f, hf, hfe⟩ := hfe.resolve_left c31
                    subst hfe
                    have hp1 := pcN_le f
                    have hp2 := pcN_le y
                    refine v_iload C dX5_bribe_91 0 rfl ?_
                    refine v_callSi C l_X5_205 (m_X5_size y (by omega)) (by decide) dX5_bribe_93 [] rfl rfl (rest := []) rfl (Nat.le_of_ble_eq_true rfl) (by decide) (fun r45 h46 => ?_)
                    subst h46
                    refine v_iload C dX5_bribe_96 1 rfl ?_
                    refine v_callSi C l_X5_205 (m_X5_size f (by omega)) (by decide) dX5_bribe_98 [] rfl rfl (rest := [.int (nI (pcN y))]) rfl (Nat.le_of_ble_eq_true rfl) (by decide) (fun r47 h48 => ?_)
                    subst h48
                    refine v_icmp_ge C 136 dX5_bribe_101 (by decide) (fun c49 => ?_) (fun c49 => ?_)
                    · have nc49 : (pcN f) ≤ (pcN y) := nI_leD c49 (by omega)
                      refine v_iinc C (nI (y + 1)) [(9, .int (nI (y + 1))), (8, .int (nI f)), (7, .int (nI s0)), (0, .ref (b 0)), (1, .int (nI cN))] 0 dX5_bribe_136 rfl (nI_inc _) (by decide) rfl ?_
                      refine v_goto C 65 dX5_bribe_139 (by decide) ?_
                      exact ihn_25 (y + 1) (nI f) nw1 ov1 ho1 vd1 iE1 hS1 (by omega) (by omega) (by rw [fsF, hfs, if_neg (fun q => q.2.elim c31 (fun q => q (by rw [raw_bc f hf, raw_bc y (by omega)]; exact c49)))]) (Or.inr ⟨f, hf, rfl⟩) hti
                    · have nc49 : (pcN y) < (pcN f) := nI_ltD c49 (by omega)
                      refine v_aload_n C dX5_bribe_104 3 rfl ?_
                      refine v_iload C dX5_bribe_105 2 rfl ?_
                      refine v_iload C dX5_bribe_107 0 rfl ?_
                      refine v_ior C dX5_bribe_109 ?_
                      refine v_eqi (nI (s0 ||| y)) (raw_or2 s0 (by omega) y (by omega)) ?_
                      refine v_callMv C l_X5_208 (m_X5_laySweets b nj (s0 ||| y) 0 n_tr n_mi (nI nc) (nI wl) n_at n_rm n_rj n_rc nw1 ov1 (nI (n.toNatClampNeg)) (nI nr) hS1 (by assumption) (by omega)) (by decide) dX5_bribe_110 [0, 3] [1, 2, 4, 5, 6, 7, 8, 9, 10, 11, 12, 13, 14] (wr := [ia (b 9) cI 5 n_kd, ia (b 10) cI 5 n_ag, ia (b 12) cB 5 n_iS, ia (b 26) cB 5 iE1, ia (b 13) cI 5 n_de, ia (b 14) cI 5 n_fr, ia (b 24) cI 5 ho1, ia (b 25) cI 6 vd1, ia (b 28) cI 5 rw_19, ia (b 15) cI 5 n_we, ia (b 2) cI 4 n_so, ia (b 3) cI 4 n_sl, ia (b 4) cI 240 n_ce]) (by decide) rfl rfl (by decide) (by decide) 0 rfl rfl rfl (rest := []) rfl (Nat.le_of_ble_eq_true rfl) (by decide) (fun w50 h51 => ?_)
                      subst h51
                      refine v_ws0 [ia (b 9) cI 5 n_kd, ia (b 10) cI 5 n_ag, ia (b 12) cB 5 n_iS, ia (b 26) cB 5 iE1, ia (b 13) cI 5 n_de, ia (b 14) cI 5 n_fr, ia (b 24) cI 5 ho1, ia (b 25) cI 6 vd1, ia (b 28) cI 5 rw_19, ia (b 15) cI 5 n_we, ia (b 2) cI 4 n_so, ia (b 3) cI 4 n_sl, ia (b 4) cI 240 n_ce, oN b 0 n_tr n_mi (nI nj) (nI nc) (nI wl) n_at n_rm n_rj n_rc nw1 ov1 (nI (n.toNatClampNeg)) (nI nr), ia (b 11) cB 5 (tbF (bA (s0 ||| y)) hS1 nj)] rfl ?_
                      refine v_aload_n C dX5_bribe_113 3 rfl ?_
                      refine v_callMv C l_X5_176 (m_X5_goRow b wl nj nc (s0 ||| y) st n.toNatClampNeg (fun px => zN ((fun qx => sc (i.toNatClampNeg + qx)) px)) dn n_we 0 n_tr n_mi n_at n_rm n_rj n_rc nw1 ov1 (nI nr) n_kd n_ag (tbF (bA (s0 ||| y)) hS1 nj) n_iS iE1 n_de n_fr ho1 vd1 rw_19 (by assumption) (by assumption) (by assumption) (fun j hj => tbF_in hj) (by assumption) (by assumption) t16 (fun p hp => ⟨by rw [hof17 p hp]; exact (odS_ok hnc t15 p hp).1, (odS_ok hnc t15 p hp).2⟩)) (by decide) dX5_bribe_114 [13, 0, 1, 14, 2, 3, 4, 5, 6, 7, 8] [9, 10, 11, 12] (wr := [ia (b 15) cI 5 n_we, ia (b 2) cI 4 n_so, ia (b 3) cI 4 n_sl, ia (b 4) cI 240 n_ce]) (by decide) rfl rfl (by decide) (by decide) 13 rfl rfl rfl (rest := []) rfl (Nat.le_of_ble_eq_true rfl) (by decide) (fun w53 h54 => ?_)
                      obtain ⟨nw_56, ov_57, ho_58, vd_59, iE_60, rfl, hs61⟩ := h54
                      refine v_ws0 [ia (b 15) cI 5 n_we, ia (b 2) cI 4 n_so, ia (b 3) cI 4 n_sl, ia (b 4) cI 240 n_ce, oN b 0 n_tr n_mi (nI nj) (nI nc) (nI wl) n_at n_rm n_rj n_rc nw_56 ov_57 (nI (n.toNatClampNeg)) (nI nr), ia (b 9) cI 5 n_kd, ia (b 10) cI 5 n_ag, ia (b 11) cB 5 (tbF (bA (s0 ||| y)) hS1 nj), ia (b 12) cB 5 n_iS, ia (b 26) cB 5 iE_60, ia (b 13) cI 5 n_de, ia (b 14) cI 5 n_fr, ia (b 24) cI 5 ho_58, ia (b 25) cI 6 vd_59, ia (b 28) cI 5 rw_19] rfl ?_
                      refine v_aload_n C dX5_bribe_117 3 rfl ?_
                      refine v_get C f_X5_47 dX5_bribe_118 4 rfl rfl ?_
                      refine v_iload_n C dX5_bribe_121 4 rfl ?_
                      refine v_ialdN C dX5_bribe_122 12 rfl cN rfl (by omega) (by decide) ?_
                      refine v_eqi ((sitS nj n_kd n_ag st wl dn n_fr n_we n_mi (s0 ||| y) (fun px => zN ((fun qx => sc (i.toNatClampNeg + qx)) px)) (n.toNatClampNeg)).1 cN) (hs61.2.2.1 cN hcN) ?_
                      refine v_iconst C 1 dX5_bribe_123 (by decide) ?_
                      refine v_icmp_ne C 132 dX5_bribe_124 (by decide) (fun c62 => ?_) (fun c62 => ?_)
                      · refine v_iload C dX5_bribe_132 0 rfl ?_
                        refine v_istore C [(8, .int (nI y)), (9, .int (nI y)), (7, .int (nI s0)), (0, .ref (b 0)), (1, .int (nI cN))] dX5_bribe_134 (by decide) rfl ?_
                        refine v_iinc C (nI (y + 1)) [(9, .int (nI (y + 1))), (8, .int (nI y)), (7, .int (nI s0)), (0, .ref (b 0)), (1, .int (nI cN))] 1 dX5_bribe_136 rfl (nI_inc _) (by decide) rfl ?_
                        refine v_goto C 65 dX5_bribe_139 (by decide) ?_
                        refine v_perm (ws' := [oN b 0 n_tr n_mi (nI nj) (nI nc) (nI wl) n_at n_rm n_rj n_rc nw_56 ov_57 (nI (n.toNatClampNeg)) (nI nr), ia (b 9) cI 5 n_kd, ia (b 10) cI 5 n_ag, ia (b 11) cB 5 (tbF (bA (s0 ||| y)) hS1 nj), ia (b 12) cB 5 n_iS, ia (b 26) cB 5 iE_60, ia (b 13) cI 5 n_de, ia (b 14) cI 5 n_fr, ia (b 24) cI 5 ho_58, ia (b 25) cI 6 vd_59, ia (b 28) cI 5 rw_19, ia (b 15) cI 5 n_we, ia (b 2) cI 4 n_so, ia (b 3) cI 4 n_sl, ia (b 4) cI 240 n_ce]) [4, 5, 6, 7, 8, 9, 10, 11, 12, 13, 14, 0, 1, 2, 3] (by decide) rfl ?_
                        exact ihn_25 (y + 1) (nI y) nw_56 ov_57 ho_58 vd_59 iE_60 (tbF (bA (s0 ||| y)) hS1 nj) (by omega) (by omega) (by rw [fsF, hfs, if_pos ⟨nc30, Or.inr (by rw [raw_bc f hf, raw_bc y (by omega)]; exact c49)⟩, if_neg (fun q => c62 (of_decide_eq_true q))]) (Or.inr ⟨y, by omega, rfl⟩) (fun v => by rw [tbF_tbF v, hti])
                      · refine v_iload C dX5_bribe_127 1 rfl ?_
                        refine v_goto C 134 dX5_bribe_129 (by decide) ?_
                        refine v_istore C [(8, .int (nI f)), (9, .int (nI y)), (7, .int (nI s0)), (0, .ref (b 0)), (1, .int (nI cN))] dX5_bribe_134 (by decide) rfl ?_
                        refine v_iinc C (nI (y + 1)) [(9, .int (nI (y + 1))), (8, .int (nI f)), (7, .int (nI s0)), (0, .ref (b 0)), (1, .int (nI cN))] 1 dX5_bribe_136 rfl (nI_inc _) (by decide) rfl ?_
                        refine v_goto C 65 dX5_bribe_139 (by decide) ?_
                        refine v_perm (ws' := [oN b 0 n_tr n_mi (nI nj) (nI nc) (nI wl) n_at n_rm n_rj n_rc nw_56 ov_57 (nI (n.toNatClampNeg)) (nI nr), ia (b 9) cI 5 n_kd, ia (b 10) cI 5 n_ag, ia (b 11) cB 5 (tbF (bA (s0 ||| y)) hS1 nj), ia (b 12) cB 5 n_iS, ia (b 26) cB 5 iE_60, ia (b 13) cI 5 n_de, ia (b 14) cI 5 n_fr, ia (b 24) cI 5 ho_58, ia (b 25) cI 6 vd_59, ia (b 28) cI 5 rw_19, ia (b 15) cI 5 n_we, ia (b 2) cI 4 n_so, ia (b 3) cI 4 n_sl, ia (b 4) cI 240 n_ce]) [4, 5, 6, 7, 8, 9, 10, 11, 12, 13, 14, 0, 1, 2, 3] (by decide) rfl ?_
                        exact ihn_25 (y + 1) (nI f) nw_56 ov_57 ho_58 vd_59 iE_60 (tbF (bA (s0 ||| y)) hS1 nj) (by omega) (by omega) (by rw [fsF, hfs, if_pos ⟨nc30, Or.inr (by rw [raw_bc f hf, raw_bc y (by omega)]; exact c49)⟩, if_pos (decide_eq_true c62)]) (Or.inr ⟨f, hf, rfl⟩) (fun v => by rw [tbF_tbF v, hti])
          refine v_loc [0, 1, 2, 4, 5] (lv' := [(9, .int 0), (8, .int (-9)), (7, .int (nI s0)), (0, .ref (b 0)), (1, .int (nI cN))]) rfl ?_
          exact lp (2 ^ nj - 0 + 1) 0 (-9) n_nw n_ov n_ho n_vd n_iE n_hS (by omega) (by omega) rfl (Or.inl rfl) (fun v => rfl)
      · refine v_eqi 0 (bI_f c9) ?_
        refine v_if_ne C 32 dX5_bribe_26 (by decide) (fun h => absurd h (by decide)) (fun _ => ?_)
        refine v_bipush C (-2) dX5_bribe_29 (by decide) ?_
        exact v_reti C hA dX5_bribe_31 rfl (⟨_, _, _, _, _, _, _, by first | (simp only [brF, brT, vS, vL, c3, c6, c9, zcN, false_or, or_false, true_or, or_true, not_false_eq_true, not_true_eq_false, and_self, and_true, true_and, and_false, false_and, ↓reduceIte]; done) | (simp only [brF, brT, vS, vL, c3, c6, c9, zcN, false_or, or_false, true_or, or_true, not_false_eq_true, not_true_eq_false, and_self, and_true, true_and, and_false, false_and, ↓reduceIte]; rfl) | (simp [brF, brT, vS, vL, c3, c6, c9, zcN]; done), by first | (simp only [brF, brT, vS, vL, c3, c6, c9, zcN, false_or, or_false, true_or, or_true, not_false_eq_true, not_true_eq_false, and_self, and_true, true_and, and_false, false_and, ↓reduceIte]; done) | (simp only [brF, brT, vS, vL, c3, c6, c9, zcN, false_or, or_false, true_or, or_true, not_false_eq_true, not_true_eq_false, and_self, and_true, true_and, and_false, false_and, ↓reduceIte]; rfl) | (simp [brF, brT, vS, vL, c3, c6, c9, zcN]; done)⟩)
    · refine v_eqi 0 (bI_f c6) ?_
      refine v_if_ne C 22 dX5_bribe_17 (by decide) (fun h => absurd h (by decide)) (fun _ => ?_)
      refine v_iconst C (-1) dX5_bribe_20 (by decide) ?_
      exact v_reti C hA dX5_bribe_21 rfl (⟨_, _, _, _, _, _, _, by first | (simp only [brF, brT, vS, vL, c3, c6, zcN, false_or, or_false, true_or, or_true, not_false_eq_true, not_true_eq_false, and_self, and_true, true_and, and_false, false_and, ↓reduceIte]; done) | (simp only [brF, brT, vS, vL, c3, c6, zcN, false_or, or_false, true_or, or_true, not_false_eq_true, not_true_eq_false, and_self, and_true, true_and, and_false, false_and, ↓reduceIte]; rfl) | (simp [brF, brT, vS, vL, c3, c6, zcN]; done), by first | (simp only [brF, brT, vS, vL, c3, c6, zcN, false_or, or_false, true_or, or_true, not_false_eq_true, not_true_eq_false, and_self, and_true, true_and, and_false, false_and, ↓reduceIte]; done) | (simp only [brF, brT, vS, vL, c3, c6, zcN, false_or, or_false, true_or, or_true, not_false_eq_true, not_true_eq_false, and_self, and_true, true_and, and_false, false_and, ↓reduceIte]; rfl) | (simp [brF, brT, vS, vL, c3, c6, zcN]; done)⟩)
  · refine v_eqi 0 (bI_f c3) ?_
    refine v_if_eq C 20 dX5_bribe_10 (by decide) (fun _ => ?_) (fun h => absurd h (by decide))
    refine v_iconst C (-1) dX5_bribe_20 (by decide) ?_
    exact v_reti C hA dX5_bribe_21 rfl (⟨_, _, _, _, _, _, _, by first | (simp only [brF, brT, vS, vL, c3, false_or, or_false, true_or, or_true, not_false_eq_true, not_true_eq_false, and_self, and_true, true_and, and_false, false_and, ↓reduceIte]; done) | (simp only [brF, brT, vS, vL, c3, false_or, or_false, true_or, or_true, not_false_eq_true, not_true_eq_false, and_self, and_true, true_and, and_false, false_and, ↓reduceIte]; rfl) | (simp [brF, brT, vS, vL, c3]; done), by first | (simp only [brF, brT, vS, vL, c3, false_or, or_false, true_or, or_true, not_false_eq_true, not_true_eq_false, and_self, and_true, true_and, and_false, false_and, ↓reduceIte]; done) | (simp only [brF, brT, vS, vL, c3, false_or, or_false, true_or, or_true, not_false_eq_true, not_true_eq_false, and_self, and_true, true_and, and_false, false_and, ↓reduceIte]; rfl) | (simp [brF, brT, vS, vL, c3]; done)⟩)
