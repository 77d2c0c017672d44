theorem rvN_end {g : Nat → Nat} {n l r : Nat} (h : r ≤ l) : rvN g n l r = g := by
  cases n with
  | zero => rfl
  | succ n => rw [rvN, if_neg (by omega)]
theorem rvN_step {g : Nat → Nat} {n l r : Nat} (h : l < r) (hn : r < l + n) : rvN g n l r = rvN (swN g l r) (n - 1) (l + 1) (r - 1) := by
  cases n with
  | zero => omega
  | succ n => rw [rvN, if_pos h]; rfl
theorem nx_start {L : Nat} (h : 1 ≤ L) : nI L - 2 = nI (L - 1) + (-1) := by
  obtain ⟨k, rfl⟩ : ∃ k, L = k + 1 := ⟨L - 1, by omega⟩
  rw [nI_succ, show k + 1 - 1 = k from rfl, Int32.sub_eq_add_neg, Int32.add_assoc]
  rfl
set_option maxHeartbeats 4000000 in
set_option maxRecDepth 100000 in
theorem m_X2_prepare {l : Launch} {D : va_G} {cI cB cS : ClassId} (a : Nat → Nat) (ln : Int32) (lw : Int32) (ss : Int32) (sx : Int32) (un : Int32) (en : Int32) (se : Int32) (tk : Nat → Int32) (si : Int32) (ju : Int32) (ca : Int32) (la : Int32) (sw : Int32) (sk : Int32) (rd : Int32) (kd : Nat → Int32) : Mv l yX2_prepare cX2_prepare 1 1 26 D cI cB cS [.ref (a 4)] [oT a ln lw ss sx un en se, ia (a 31) cI 5 tk, oK a si ju ca la sw sk rd, ia (a 20) cI 5 kd] (fun w => w = [oT a 0 la sw sk sw en se, ia (a 31) cI 5 kd, oK a si ju ca la sw sk rd, ia (a 20) cI 5 kd]) := by
  refine Mv.of (by decide) (Nat.le_of_ble_eq_true rfl) ?_
  intro zp ze zs zm zb zt zc zz zA hA C hnm
  refine v_lv0 [(0, .ref (a 4))] rfl ?_
  refine v_aload_n C dX2_prepare_0 0 rfl ?_
  refine v_get C f_X2_24 dX2_prepare_1 0 rfl rfl ?_
  refine v_get C f_X2_28 dX2_prepare_4 2 rfl rfl ?_
  refine v_iconst C 0 dX2_prepare_7 (by decide) ?_
  refine v_aload_n C dX2_prepare_8 0 rfl ?_
  refine v_get C f_X2_9 dX2_prepare_9 0 rfl rfl ?_
  refine v_iconst C 0 dX2_prepare_12 (by decide) ?_
  refine v_iconst C 5 dX2_prepare_13 (by decide) ?_
  refine v_copy C lc_X2_31 lc_nat lc_sta lc_ini [oT a ln lw ss sx un en se, ia (a 31) cI 5 (va_cpy kd tk 0 0 5), oK a si ju ca la sw sk rd, ia (a 20) cI 5 kd] dX2_prepare_14 3 1 rfl rfl 0 0 5 rfl rfl rfl (by omega) (by omega) (by decide) (by decide) (by decide) (by decide) rfl ?_
  refine v_ext [oT a ln lw ss sx un en se, ia (a 31) cI 5 kd, oK a si ju ca la sw sk rd, ia (a 20) cI 5 kd] 1 kd rfl (fun j hj => (by simp [va_cpy, hj])) rfl ?_
  refine v_aload_n C dX2_prepare_17 0 rfl ?_
  refine v_aload_n C dX2_prepare_18 0 rfl ?_
  refine v_get C f_X2_24 dX2_prepare_19 0 rfl rfl ?_
  refine v_get C f_X2_37 dX2_prepare_22 2 rfl rfl ?_
  refine v_put C p_X2_41 [oT a ln la ss sx un en se, ia (a 31) cI 5 kd, oK a si ju ca la sw sk rd, ia (a 20) cI 5 kd] dX2_prepare_25 0 rfl rfl rfl (Nat.le_of_ble_eq_true rfl) rfl ?_
  refine v_aload_n C dX2_prepare_28 0 rfl ?_
  refine v_aload_n C dX2_prepare_29 0 rfl ?_
  refine v_get C f_X2_24 dX2_prepare_30 0 rfl rfl ?_
  refine v_get C f_X2_42 dX2_prepare_33 2 rfl rfl ?_
  refine v_put C p_X2_45 [oT a ln la sw sx un en se, ia (a 31) cI 5 kd, oK a si ju ca la sw sk rd, ia (a 20) cI 5 kd] dX2_prepare_36 0 rfl rfl rfl (Nat.le_of_ble_eq_true rfl) rfl ?_
  refine v_aload_n C dX2_prepare_39 0 rfl ?_
  refine v_aload_n C dX2_prepare_40 0 rfl ?_
  refine v_get C f_X2_24 dX2_prepare_41 0 rfl rfl ?_
  refine v_get C f_X2_46 dX2_prepare_44 2 rfl rfl ?_
  refine v_put C p_X2_49 [oT a ln la sw sk un en se, ia (a 31) cI 5 kd, oK a si ju ca la sw sk rd, ia (a 20) cI 5 kd] dX2_prepare_47 0 rfl rfl rfl (Nat.le_of_ble_eq_true rfl) rfl ?_
  refine v_aload_n C dX2_prepare_50 0 rfl ?_
  refine v_aload_n C dX2_prepare_51 0 rfl ?_
  refine v_get C f_X2_45 dX2_prepare_52 0 rfl rfl ?_
  refine v_put C p_X2_50 [oT a ln la sw sk sw en se, ia (a 31) cI 5 kd, oK a si ju ca la sw sk rd, ia (a 20) cI 5 kd] dX2_prepare_55 0 rfl rfl rfl (Nat.le_of_ble_eq_true rfl) rfl ?_
  refine v_aload_n C dX2_prepare_58 0 rfl ?_
  refine v_iconst C 0 dX2_prepare_59 (by decide) ?_
  refine v_put C p_X2_53 [oT a 0 la sw sk sw en se, ia (a 31) cI 5 kd, oK a si ju ca la sw sk rd, ia (a 20) cI 5 kd] dX2_prepare_60 0 rfl rfl rfl (Nat.le_of_ble_eq_true rfl) rfl ?_
  exact v_retv C hA dX2_prepare_63 (rfl)
set_option maxHeartbeats 4000000 in
set_option maxRecDepth 100000 in
theorem m_X2_addToOrder {l : Launch} {D : va_G} {cI cB cS : ClassId} (a : Nat → Nat) (L : Nat) (lw : Int32) (ss : Int32) (sx : Int32) (un : Int32) (en : Int32) (se : Int32) (od : Nat → Int32) (c : Int32) (hL : L < 5) : Mv l yX2_addToOrder cX2_addToOrder 2 0 0 D cI cB cS [.ref (a 4), .int c] [oT a (nI L) lw ss sx un en se, ia (a 32) cI 5 od] (fun w => w = [oT a (nI (L + 1)) lw ss sx un en se, ia (a 32) cI 5 (upd od L c)]) := by
  refine Mv.of (by decide) (Nat.le_of_ble_eq_true rfl) ?_
  intro zp ze zs zm zb zt zc zz zA hA C hnm
  refine v_lv0 [(0, .ref (a 4)), (1, .int c)] rfl ?_
  refine v_aload_n C dX2_addToOrder_0 0 rfl ?_
  refine v_get C f_X2_53 dX2_addToOrder_1 0 rfl rfl ?_
  refine v_iconst C 5 dX2_addToOrder_4 (by decide) ?_
  refine v_icmp_ge C 28 dX2_addToOrder_5 (by decide) (fun c1 => ?_) (fun c1 => ?_)
  · have nc1 : 5 ≤ L := nI_leD c1 (by omega)
    exact absurd nc1 (by omega)
  · have nc1 : L < 5 := nI_ltD c1 (by omega)
    refine v_aload_n C dX2_addToOrder_8 0 rfl ?_
    refine v_get C f_X2_15 dX2_addToOrder_9 0 rfl rfl ?_
    refine v_aload_n C dX2_addToOrder_12 0 rfl ?_
    refine v_get C f_X2_53 dX2_addToOrder_13 0 rfl rfl ?_
    refine v_iload_n C dX2_addToOrder_16 1 rfl ?_
    refine v_iastN C [oT a (nI L) lw ss sx un en se, ia (a 32) cI 5 (upd od L c)] dX2_addToOrder_17 1 rfl L rfl (by omega) (by decide) rfl ?_
    refine v_aload_n C dX2_addToOrder_18 0 rfl ?_
    refine v_dup C dX2_addToOrder_19 rfl ?_
    refine v_get C f_X2_53 dX2_addToOrder_20 0 rfl rfl ?_
    refine v_iconst C 1 dX2_addToOrder_23 (by decide) ?_
    refine v_iadd C dX2_addToOrder_24 ?_
    refine v_eqi (nI (L + 1)) (nI_1 L) ?_
    refine v_put C p_X2_53 [oT a (nI (L + 1)) lw ss sx un en se, ia (a 32) cI 5 (upd od L c)] dX2_addToOrder_25 0 rfl rfl rfl (Nat.le_of_ble_eq_true rfl) rfl ?_
    exact v_retv C hA dX2_addToOrder_28 (rfl)
set_option maxHeartbeats 4000000 in
set_option maxRecDepth 100000 in
theorem m_X2_swapInOrder {l : Launch} {D : va_G} {cI cB cS : ClassId} (a : Nat → Nat) (p q : Nat) (ln : Int32) (lw : Int32) (ss : Int32) (sx : Int32) (un : Int32) (en : Int32) (se : Int32) (od : Nat → Int32) (hp : p < 5) (hq : q < 5) : Mv l yX2_swapInOrder cX2_swapInOrder 4 0 0 D cI cB cS [.ref (a 4), .int (nI p), .int (nI q)] [oT a ln lw ss sx un en se, ia (a 32) cI 5 od] (fun w => w = [oT a ln lw ss sx un en se, ia (a 32) cI 5 (upd (upd od p (od q)) q (od p))]) := by
  refine Mv.of (by decide) (Nat.le_of_ble_eq_true rfl) ?_
  intro zp ze zs zm zb zt zc zz zA hA C hnm
  refine v_lv0 [(0, .ref (a 4)), (1, .int (nI p)), (2, .int (nI q))] rfl ?_
  refine v_aload_n C dX2_swapInOrder_0 0 rfl ?_
  refine v_get C f_X2_15 dX2_swapInOrder_1 0 rfl rfl ?_
  refine v_iload_n C dX2_swapInOrder_4 1 rfl ?_
  refine v_ialdN C dX2_swapInOrder_5 1 rfl p rfl (by omega) (by decide) ?_
  refine v_istore_n C [(3, .int (od p)), (0, .ref (a 4)), (1, .int (nI p)), (2, .int (nI q))] dX2_swapInOrder_6 (by decide) rfl ?_
  refine v_aload_n C dX2_swapInOrder_7 1 rfl ?_
  refine v_get C f_X2_15 dX2_swapInOrder_8 0 rfl rfl ?_
  refine v_iload_n C dX2_swapInOrder_11 2 rfl ?_
  refine v_aload_n C dX2_swapInOrder_12 1 rfl ?_
  refine v_get C f_X2_15 dX2_swapInOrder_13 0 rfl rfl ?_
  refine v_iload_n C dX2_swapInOrder_16 3 rfl ?_
  refine v_ialdN C dX2_swapInOrder_17 1 rfl q rfl (by omega) (by decide) ?_
  refine v_iastN C [oT a ln lw ss sx un en se, ia (a 32) cI 5 (upd od p (od q))] dX2_swapInOrder_18 1 rfl p rfl (by omega) (by decide) rfl ?_
  refine v_aload_n C dX2_swapInOrder_19 1 rfl ?_
  refine v_get C f_X2_15 dX2_swapInOrder_20 0 rfl rfl ?_
  refine v_iload_n C dX2_swapInOrder_23 3 rfl ?_
  refine v_iload_n C dX2_swapInOrder_24 0 rfl ?_
  refine v_iastN C [oT a ln lw ss sx un en se, ia (a 32) cI 5 (upd (upd od p (od q)) q (od p))] dX2_swapInOrder_25 1 rfl q rfl (by omega) (by decide) rfl ?_
  exact v_retv C hA dX2_swapInOrder_26 (rfl)
set_option maxHeartbeats 4000000 in
set_option maxRecDepth 100000 in
theorem m_X2_goToNextOrder {l : Launch} {D : va_G} {cI cB cS : ClassId} (a : Nat → Nat) (L : Nat) (g : Nat → Nat) (lw : Int32) (ss : Int32) (sx : Int32) (un : Int32) (en : Int32) (se : Int32) (od : Nat → Int32) (hL : L ≤ 5) (hL1 : 1 ≤ L) (hf : ∀ i, i < L → od i = nI (g i)) (hg : ∀ i, i < L → g i < 5) : Mi l yX2_goToNextOrder cX2_goToNextOrder 5 (some .boolean) 1 23 D cI cB cS [.ref (a 4)] [oT a (nI L) lw ss sx un en se, ia (a 32) cI 5 od] (fun r w => (nxN L g = none ∧ r = 0 ∧ w = [oT a (nI L) lw ss sx un en se, ia (a 32) cI 5 od]) ∨ (∃ (g' : Nat → Nat) (od' : Nat → Int32), nxN L g = some g' ∧ r = 1 ∧ w = [oT a (nI L) lw ss sx un en se, ia (a 32) cI 5 od'] ∧ ∀ i, i < L → od' i = nI (g' i))) := by
  refine Mi.of (by decide) (Nat.le_of_ble_eq_true rfl) ?_
  intro zp ze zs zm zb zt zc zz zA hA C hnm
  refine v_lv0 [(0, .ref (a 4))] rfl ?_
  refine v_aload_n C dX2_goToNextOrder_0 0 rfl ?_
  refine v_get C f_X2_53 dX2_goToNextOrder_1 0 rfl rfl ?_
  refine v_iconst C 2 dX2_goToNextOrder_4 (by decide) ?_
  refine v_isub C dX2_goToNextOrder_5 ?_
  refine v_istore_n C [(1, .int ((nI L) - 2)), (0, .ref (a 4))] dX2_goToNextOrder_6 (by decide) rfl ?_
  have hz : nI L - 2 = nI (L - 1) + (-1) := nx_start hL1
  refine v_lv0 [(1, .int (nI (L - 1) + (-1))), (0, .ref (a 4))] (by rw [hz]) ?_
  have lp : ∀ (n_2 : Nat) (r : Nat), r < n_2 → (r ≤ L - 1) → (rsN g (L - 1) = rsN g r) → V zp l ze (rmOf 1 23) zs zm [.ref (a 4)].toArray zb zt zc D (IM zA zs) (QMi zb [.ref (a 4)].toArray zs D cI cB cS [oT a (nI L) lw ss sx un en se, ia (a 32) cI 5 od] zz (fun r w => (nxN L g = none ∧ r = 0 ∧ w = [oT a (nI L) lw ss sx un en se, ia (a 32) cI 5 od]) ∨ (∃ (g' : Nat → Nat) (od' : Nat → Int32), nxN L g = some g' ∧ r = 1 ∧ w = [oT a (nI L) lw ss sx un en se, ia (a 32) cI 5 od'] ∧ ∀ i, i < L → od' i = nI (g' i)))) 0 0 5 [oT a (nI L) lw ss sx un en se, ia (a 32) cI 5 od] [(1, .int (nI r + (-1))), (0, .ref (a 4))] 7 [] := by
    intro n_2
    induction n_2 with
    | zero => intro r b1; exact absurd b1 (by omega)
    | succ n_2 ihn_2 =>
      intro r b1 hr hrs
      cases r with
      | zero =>
        refine v_lv0 [(1, .int (-1)), (0, .ref (a 4))] (by rfl) ?_
        refine v_iload_n C dX2_goToNextOrder_7 0 rfl ?_
        have hrs0 := hrs
        refine v_if_lt C 34 dX2_goToNextOrder_8 (by decide) (fun _ => ?_) (fun h => absurd h (by decide))
        refine v_iload_n C dX2_goToNextOrder_34 0 rfl ?_
        refine v_if_ge C 40 dX2_goToNextOrder_35 (by decide) (fun h => absurd h (by decide)) (fun _ => ?_)
        refine v_iconst C 0 dX2_goToNextOrder_38 (by decide) ?_
        exact v_reti C hA dX2_goToNextOrder_39 rfl (Or.inl ⟨by rw [nxN, hrs]; rfl, rfl, rfl⟩)
      | succ r =>
        refine v_lv0 [(1, .int (nI r)), (0, .ref (a 4))] (by rw [pk_m1]) ?_
        refine v_iload_n C dX2_goToNextOrder_7 0 rfl ?_
        refine v_if_lt C 34 dX2_goToNextOrder_8 (by decide) (fun c3 => ?_) (fun c3 => ?_)
        · have nc3 : r < 0 := nI_ltP c3 (by omega)
          exact absurd nc3 (by omega)
        · have nc3 : 0 ≤ r := nI_geP c3 (by omega)
          refine v_aload_n C dX2_goToNextOrder_11 1 rfl ?_
          refine v_get C f_X2_15 dX2_goToNextOrder_12 0 rfl rfl ?_
          refine v_iload_n C dX2_goToNextOrder_15 0 rfl ?_
          refine v_ialdN C dX2_goToNextOrder_16 1 rfl r rfl (by omega) (by decide) ?_
          refine v_eqi (nI (g r)) (hf r (by omega)) ?_
          refine v_aload_n C dX2_goToNextOrder_17 1 rfl ?_
          refine v_get C f_X2_15 dX2_goToNextOrder_18 0 rfl rfl ?_
          refine v_iload_n C dX2_goToNextOrder_21 0 rfl ?_
          refine v_iconst C 1 dX2_goToNextOrder_22 (by decide) ?_
          refine v_iadd C dX2_goToNextOrder_23 ?_
          refine v_eqi (nI (r + 1)) (nI_1 r) ?_
          refine v_ialdN C dX2_goToNextOrder_24 1 rfl (r + 1) rfl (by omega) (by decide) ?_
          refine v_eqi (nI (g (r + 1))) (hf (r + 1) (by omega)) ?_
          have hg0 := hg r (by omega)
          have hg1 := hg (r + 1) (by omega)
          refine v_icmp_le C 34 dX2_goToNextOrder_25 (by decide) (fun c4 => ?_) (fun c4 => ?_)
          · have nc4 : (g r) ≤ (g (r + 1)) := nI_leD c4 (by omega)
            have hrr : rsN g (L - 1) = some r := by rw [hrs, rsN, if_neg (by omega)]
            refine v_iload_n C dX2_goToNextOrder_34 0 rfl ?_
            refine v_if_ge C 40 dX2_goToNextOrder_35 (by decide) (fun c5 => ?_) (fun c5 => ?_)
            · have nc5 : 0 ≤ r := nI_leD c5 (by omega)
              refine v_aload_n C dX2_goToNextOrder_40 1 rfl ?_
              refine v_get C f_X2_53 dX2_goToNextOrder_41 0 rfl rfl ?_
              refine v_iconst C 1 dX2_goToNextOrder_44 (by decide) ?_
              refine v_isub C dX2_goToNextOrder_45 ?_
              refine v_eqi (nI (L - 1)) (pk_sub (by omega : 1 ≤ L)) ?_
              refine v_istore_n C [(2, .int (nI (L - 1))), (1, .int (nI r)), (0, .ref (a 4))] dX2_goToNextOrder_46 (by decide) rfl ?_
              have lq : ∀ (n_7 : Nat) (w : Nat), w < n_7 → (r ≤ w) → (w ≤ L - 1) → (wtN g r (L - 1) = wtN g r w) → V zp l ze (rmOf 1 23) zs zm [.ref (a 4)].toArray zb zt zc D (IM zA zs) (QMi zb [.ref (a 4)].toArray zs D cI cB cS [oT a (nI L) lw ss sx un en se, ia (a 32) cI 5 od] zz (fun r w => (nxN L g = none ∧ r = 0 ∧ w = [oT a (nI L) lw ss sx un en se, ia (a 32) cI 5 od]) ∨ (∃ (g' : Nat → Nat) (od' : Nat → Int32), nxN L g = some g' ∧ r = 1 ∧ w = [oT a (nI L) lw ss sx un en se, ia (a 32) cI 5 od'] ∧ ∀ i, i < L → od' i = nI (g' i)))) 0 0 5 [oT a (nI L) lw ss sx un en se, ia (a 32) cI 5 od] [(2, .int (nI w)), (1, .int (nI r)), (0, .ref (a 4))] 47 [] := by
                intro n_7
                induction n_7 with
                | zero => intro w b6; exact absurd b6 (by omega)
                | succ n_7 ihn_7 =>
                  intro w b6 hw1 hw2 hw
                  refine v_iload_n C dX2_goToNextOrder_47 0 rfl ?_
                  refine v_iload_n C dX2_goToNextOrder_48 1 rfl ?_
                  refine v_icmp_le C 73 dX2_goToNextOrder_49 (by decide) (fun c8 => ?_) (fun c8 => ?_)
                  · have nc8 : w ≤ r := nI_leD c8 (by omega)
                    have hwe : wtN g r (L - 1) = w := by rw [hw]; cases w with | zero => rfl | succ w => rw [wtN, if_neg (by omega)]
                    refine v_aload_n C dX2_goToNextOrder_73 2 rfl ?_
                    refine v_iload_n C dX2_goToNextOrder_74 1 rfl ?_
                    refine v_iload_n C dX2_goToNextOrder_75 0 rfl ?_
                    refine v_callMv C l_X2_56 (m_X2_swapInOrder a r w (nI L) lw ss sx un en se od (by omega) (by omega)) (by decide) dX2_goToNextOrder_76 [0, 1] [] (wr := []) (by decide) rfl rfl (by decide) (by decide) 0 rfl rfl rfl (rest := []) rfl (Nat.le_of_ble_eq_true rfl) (by decide) (fun w9 h10 => ?_)
                    subst h10
                    refine v_ws0 [oT a (nI L) lw ss sx un en se, ia (a 32) cI 5 (upd (upd od r (od w)) w (od r))] rfl ?_
                    refine v_iload_n C dX2_goToNextOrder_79 1 rfl ?_
                    refine v_iconst C 1 dX2_goToNextOrder_80 (by decide) ?_
                    refine v_iadd C dX2_goToNextOrder_81 ?_
                    refine v_eqi (nI (r + 1)) (nI_1 r) ?_
                    refine v_istore_n C [(3, .int (nI (r + 1))), (2, .int (nI w)), (1, .int (nI r)), (0, .ref (a 4))] dX2_goToNextOrder_82 (by decide) rfl ?_
                    refine v_aload_n C dX2_goToNextOrder_83 3 rfl ?_
                    refine v_get C f_X2_53 dX2_goToNextOrder_84 0 rfl rfl ?_
                    refine v_iconst C 1 dX2_goToNextOrder_87 (by decide) ?_
                    refine v_isub C dX2_goToNextOrder_88 ?_
                    refine v_eqi (nI (L - 1)) (pk_sub (by omega : 1 ≤ L)) ?_
                    refine v_istore C [(4, .int (nI (L - 1))), (3, .int (nI (r + 1))), (2, .int (nI w)), (1, .int (nI r)), (0, .ref (a 4))] dX2_goToNextOrder_89 (by decide) rfl ?_
                    have hf1 := sw_upd hf (show r < L by omega) (show w < L by omega)
                    have lr : ∀ (n_13 : Nat) (lf : Nat) (rt : Nat) (fu : Nat) (f2 : Nat → Int32) (g2 : Nat → Nat), rt - lf < n_13 → (lf ≤ L) → (1 ≤ lf) → (rt ≤ L - 1) → (rt < lf + fu) → (∀ i, i < L → f2 i = nI (g2 i)) → (rvN (swN g r w) L (r + 1) (L - 1) = rvN g2 fu lf rt) → V zp l ze (rmOf 1 23) zs zm [.ref (a 4)].toArray zb zt zc D (IM zA zs) (QMi zb [.ref (a 4)].toArray zs D cI cB cS [oT a (nI L) lw ss sx un en se, ia (a 32) cI 5 od] zz (fun r w => (nxN L g = none ∧ r = 0 ∧ w = [oT a (nI L) lw ss sx un en se, ia (a 32) cI 5 od]) ∨ (∃ (g' : Nat → Nat) (od' : Nat → Int32), nxN L g = some g' ∧ r = 1 ∧ w = [oT a (nI L) lw ss sx un en se, ia (a 32) cI 5 od'] ∧ ∀ i, i < L → od' i = nI (g' i)))) 0 0 5 [oT a (nI L) lw ss sx un en se, ia (a 32) cI 5 f2] [(4, .int (nI rt)), (3, .int (nI lf)), (0, .ref (a 4))] 91 [] := by
                      intro n_13
                      induction n_13 with
                      | zero => intro lf rt fu f2 g2 b12; exact absurd b12 (by omega)
                      | succ n_13 ihn_13 =>
                        intro lf rt fu f2 g2 b12 hl3 hl1 hl2 hfu hf2 hg2
                        refine v_iload_n C dX2_goToNextOrder_91 1 rfl ?_
                        refine v_iload C dX2_goToNextOrder_92 0 rfl ?_
                        refine v_icmp_ge C 113 dX2_goToNextOrder_94 (by decide) (fun c14 => ?_) (fun c14 => ?_)
                        · have nc14 : rt ≤ lf := nI_leD c14 (by omega)
                          refine v_iconst C 1 dX2_goToNextOrder_113 (by decide) ?_
                          exact v_reti C hA dX2_goToNextOrder_114 rfl (Or.inr ⟨g2, f2, by rw [nxN, hrr]; show some (rvN (swN g r (wtN g r (L - 1))) L (r + 1) (L - 1)) = _; rw [hwe, hg2, rvN_end (by omega)], rfl, rfl, hf2⟩)
                        · have nc14 : lf < rt := nI_ltD c14 (by omega)
                          refine v_aload_n C dX2_goToNextOrder_97 2 rfl ?_
                          refine v_iload_n C dX2_goToNextOrder_98 1 rfl ?_
                          refine v_iload C dX2_goToNextOrder_99 0 rfl ?_
                          refine v_callMv C l_X2_56 (m_X2_swapInOrder a lf rt (nI L) lw ss sx un en se f2 (by omega) (by omega)) (by decide) dX2_goToNextOrder_101 [0, 1] [] (wr := []) (by decide) rfl rfl (by decide) (by decide) 0 rfl rfl rfl (rest := []) rfl (Nat.le_of_ble_eq_true rfl) (by decide) (fun w15 h16 => ?_)
                          subst h16
                          refine v_ws0 [oT a (nI L) lw ss sx un en se, ia (a 32) cI 5 (upd (upd f2 lf (f2 rt)) rt (f2 lf))] rfl ?_
                          refine v_iinc C (nI (lf + 1)) [(3, .int (nI (lf + 1))), (4, .int (nI rt)), (0, .ref (a 4))] 1 dX2_goToNextOrder_104 rfl (nI_inc _) (by decide) rfl ?_
                          refine v_iinc C (nI (rt - 1)) [(4, .int (nI (rt - 1))), (3, .int (nI (lf + 1))), (0, .ref (a 4))] 1 dX2_goToNextOrder_107 rfl (nI_dec (by omega)) (by decide) rfl ?_
                          refine v_goto C 91 dX2_goToNextOrder_110 (by decide) ?_
                          exact ihn_13 (lf + 1) (rt - 1) (fu - 1) (upd (upd f2 lf (f2 rt)) rt (f2 lf)) (swN g2 lf rt) (by omega) (by omega) (by omega) (by omega) (by omega) (sw_upd hf2 (by omega) (by omega)) (by rw [hg2]; exact rvN_step (by omega) (by omega))
                    refine v_loc [0, 1, 4] (lv' := [(4, .int (nI (L - 1))), (3, .int (nI (r + 1))), (0, .ref (a 4))]) rfl ?_
                    exact lr ((L - 1) - (r + 1) + 1) (r + 1) (L - 1) L (upd (upd od r (od w)) w (od r)) (swN g r w) (by omega) (by omega) (by omega) (by omega) (by omega) hf1 rfl
                  · have nc8 : r < w := nI_ltD c8 (by omega)
                    refine v_aload_n C dX2_goToNextOrder_52 2 rfl ?_
                    refine v_get C f_X2_15 dX2_goToNextOrder_53 0 rfl rfl ?_
                    refine v_iload_n C dX2_goToNextOrder_56 0 rfl ?_
                    refine v_ialdN C dX2_goToNextOrder_57 1 rfl w rfl (by omega) (by decide) ?_
                    refine v_eqi (nI (g w)) (hf w (by omega)) ?_
                    refine v_aload_n C dX2_goToNextOrder_58 2 rfl ?_
                    refine v_get C f_X2_15 dX2_goToNextOrder_59 0 rfl rfl ?_
                    refine v_iload_n C dX2_goToNextOrder_62 1 rfl ?_
                    refine v_ialdN C dX2_goToNextOrder_63 1 rfl r rfl (by omega) (by decide) ?_
                    refine v_eqi (nI (g r)) (hf r (by omega)) ?_
                    have hgw := hg w (by omega)
                    refine v_icmp_ge C 73 dX2_goToNextOrder_64 (by decide) (fun c18 => ?_) (fun c18 => ?_)
                    · have nc18 : (g r) ≤ (g w) := nI_leD c18 (by omega)
                      have hwe : wtN g r (L - 1) = w := by rw [hw]; cases w with | zero => rfl | succ w => rw [wtN, if_neg (by omega)]
                      refine v_aload_n C dX2_goToNextOrder_73 2 rfl ?_
                      refine v_iload_n C dX2_goToNextOrder_74 1 rfl ?_
                      refine v_iload_n C dX2_goToNextOrder_75 0 rfl ?_
                      refine v_callMv C l_X2_56 (m_X2_swapInOrder a r w (nI L) lw ss sx un en se od (by omega) (by omega)) (by decide) dX2_goToNextOrder_76 [0, 1] [] (wr := []) (by decide) rfl rfl (by decide) (by decide) 0 rfl rfl rfl (rest := []) rfl (Nat.le_of_ble_eq_true rfl) (by decide) (fun w19 h20 => ?_)
                      subst h20
                      refine v_ws0 [oT a (nI L) lw ss sx un en se, ia (a 32) cI 5 (upd (upd od r (od w)) w (od r))] rfl ?_
                      refine v_iload_n C dX2_goToNextOrder_79 1 rfl ?_
                      refine v_iconst C 1 dX2_goToNextOrder_80 (by decide) ?_
                      refine v_iadd C dX2_goToNextOrder_81 ?_
                      refine v_eqi (nI (r + 1)) (nI_1 r) ?_
                      refine v_istore_n C [(3, .int (nI (r + 1))), (2, .int (nI w)), (1, .int (nI r)), (0, .ref (a 4))] dX2_goToNextOrder_82 (by decide) rfl ?_
                      refine v_aload_n C dX2_goToNextOrder_83 3 rfl ?_
                      refine v_get C f_X2_53 dX2_goToNextOrder_84 0 rfl rfl ?_
                      refine v_iconst C 1 dX2_goToNextOrder_87 (by decide) ?_
                      refine v_isub C dX2_goToNextOrder_88 ?_
                      refine v_eqi (nI (L - 1)) (pk_sub (by omega : 1 ≤ L)) ?_
                      refine v_istore C [(4, .int (nI (L - 1))), (3, .int (nI (r + 1))), (2, .int (nI w)), (1, .int (nI r)), (0, .ref (a 4))] dX2_goToNextOrder_89 (by decide) rfl ?_
                      have hf1 := sw_upd hf (show r < L by omega) (show w < L by omega)
                      have lr : ∀ (n_23 : Nat) (lf : Nat) (rt : Nat) (fu : Nat) (f2 : Nat → Int32) (g2 : Nat → Nat), rt - lf < n_23 → (lf ≤ L) → (1 ≤ lf) → (rt ≤ L - 1) → (rt < lf + fu) → (∀ i, i < L → f2 i = nI (g2 i)) → (rvN (swN g r w) L (r + 1) (L - 1) = rvN g2 fu lf rt) → V zp l ze (rmOf 1 23) zs zm [.ref (a 4)].toArray zb zt zc D (IM zA zs) (QMi zb [.ref (a 4)].toArray zs D cI cB cS [oT a (nI L) lw ss sx un en se, ia (a 32) cI 5 od] zz (fun r w => (nxN L g = none ∧ r = 0 ∧ w = [oT a (nI L) lw ss sx un en se, ia (a 32) cI 5 od]) ∨ (∃ (g' : Nat → Nat) (od' : Nat → Int32), nxN L g = some g' ∧ r = 1 ∧ w = [oT a (nI L) lw ss sx un en se, ia (a 32) cI 5 od'] ∧ ∀ i, i < L → od' i = nI (g' i)))) 0 0 5 [oT a (nI L) lw ss sx un en se, ia (a 32) cI 5 f2] [(4, .int (nI rt)), (3, .int (nI lf)), (0, .ref (a 4))] 91 [] := by
                        intro n_23
                        induction n_23 with
                        | zero => intro lf rt fu f2 g2 b22; exact absurd b22 (by omega)
                        | succ n_23 ihn_23 =>
                          intro lf rt fu f2 g2 b22 hl3 hl1 hl2 hfu hf2 hg2
                          refine v_iload_n C dX2_goToNextOrder_91 1 rfl ?_
                          refine v_iload C dX2_goToNextOrder_92 0 rfl ?_
                          refine v_icmp_ge C 113 dX2_goToNextOrder_94 (by decide) (fun c24 => ?_) (fun c24 => ?_)
                          · have nc24 : rt ≤ lf := nI_leD c24 (by omega)
                            refine v_iconst C 1 dX2_goToNextOrder_113 (by decide) ?_
                            exact v_reti C hA dX2_goToNextOrder_114 rfl (Or.inr ⟨g2, f2, by rw [nxN, hrr]; show some (rvN (swN g r (wtN g r (L - 1))) L (r + 1) (L - 1)) = _; rw [hwe, hg2, rvN_end (by omega)], rfl, rfl, hf2⟩)
                          · have nc24 : lf < rt := nI_ltD c24 (by omega)
                            refine v_aload_n C dX2_goToNextOrder_97 2 rfl ?_
                            refine v_iload_n C dX2_goToNextOrder_98 1 rfl ?_
                            refine v_iload C dX2_goToNextOrder_99 0 rfl ?_
                            refine v_callMv C l_X2_56 (m_X2_swapInOrder a lf rt (nI L) lw ss sx un en se f2 (by omega) (by omega)) (by decide) dX2_goToNextOrder_101 [0, 1] [] (wr := []) (by decide) rfl rfl (by decide) (by decide) 0 rfl rfl rfl (rest := []) rfl (Nat.le_of_ble_eq_true rfl) (by decide) (fun w25 h26 => ?_)
                            subst h26
                            refine v_ws0 [oT a (nI L) lw ss sx un en se, ia (a 32) cI 5 (upd (upd f2 lf (f2 rt)) rt (f2 lf))] rfl ?_
                            refine v_iinc C (nI (lf + 1)) [(3, .int (nI (lf + 1))), (4, .int (nI rt)), (0, .ref (a 4))] 1 dX2_goToNextOrder_104 rfl (nI_inc _) (by decide) rfl ?_
                            refine v_iinc C (nI (rt - 1)) [(4, .int (nI (rt - 1))), (3, .int (nI (lf + 1))), (0, .ref (a 4))] 1 dX2_goToNextOrder_107 rfl (nI_dec (by omega)) (by decide) rfl ?_
                            refine v_goto C 91 dX2_goToNextOrder_110 (by decide) ?_
                            exact ihn_23 (lf + 1) (rt - 1) (fu - 1) (upd (upd f2 lf (f2 rt)) rt (f2 lf)) (swN g2 lf rt) (by omega) (by omega) (by omega) (by omega) (by omega) (sw_upd hf2 (by omega) (by omega)) (by rw [hg2]; exact rvN_step (by omega) (by omega))
                      refine v_loc [0, 1, 4] (lv' := [(4, .int (nI (L - 1))), (3, .int (nI (r + 1))), (0, .ref (a 4))]) rfl ?_
                      exact lr ((L - 1) - (r + 1) + 1) (r + 1) (L - 1) L (upd (upd od r (od w)) w (od r)) (swN g r w) (by omega) (by omega) (by omega) (by omega) (by omega) hf1 rfl
                    · have nc18 : (g w) < (g r) := nI_ltD c18 (by omega)
                      have hwe : wtN g r (L - 1) = wtN g r (w - 1) := by rw [hw]; cases w with | zero => omega | succ w => rw [wtN, if_pos (by omega)]; rfl
                      refine v_iinc C (nI (w - 1)) [(2, .int (nI (w - 1))), (1, .int (nI r)), (0, .ref (a 4))] 0 dX2_goToNextOrder_67 rfl (nI_dec (by omega)) (by decide) rfl ?_
                      refine v_goto C 47 dX2_goToNextOrder_70 (by decide) ?_
                      exact ihn_7 (w - 1) (by omega) (by omega) (by omega) hwe
              exact lq ((L - 1) + 1) (L - 1) (by omega) (by omega) (by omega) rfl
            · have nc5 : r < 0 := nI_ltD c5 (by omega)
              exact absurd nc5 (by omega)
          · have nc4 : (g (r + 1)) < (g r) := nI_ltD c4 (by omega)
            have hrr : rsN g (L - 1) = rsN g r := by rw [hrs, rsN, if_pos (by omega)]
            refine v_iinc C (nI r + (-1)) [(1, .int (nI r + (-1))), (0, .ref (a 4))] 0 dX2_goToNextOrder_28 rfl (rfl) (by decide) rfl ?_
            refine v_goto C 7 dX2_goToNextOrder_31 (by decide) ?_
            exact ihn_2 r (by omega) (by omega) hrr
  exact lp ((L - 1) + 1) (L - 1) (by omega) (by omega) rfl
