set_option maxHeartbeats 4000000 in
set_option maxRecDepth 100000 in
theorem m_X4_sentencedIfStruck {l : Launch} {D : va_G} {cI cB cS : ClassId} (a : Nat → Nat) (x s0 lw nj L nc : Nat) (o dn : Nat → Nat) (tr : Int32) (fa : Int32) (sx : Int32) (un : Int32) (en : Int32) (se : Int32) (tk : Nat → Int32) (od : Nat → Int32) (ve : Nat → Int32) (vd : Nat → Int32) (si : Int32) (ca : Int32) (la : Int32) (sw : Int32) (sk : Int32) (rd : Int32) (ag : Nat → Int32) (de : Nat → Int32) (ta : Nat → Int32) (we : Nat → Int32) (hst : x < 32) (hnj : nj ≤ 5) (hlw : lw < 64) (hp5 : 2 ^ nj ≤ 32) (hs0 : s0 < 2 ^ nj) (hL : L ≤ 5) (hnc : nc ≤ 5) (ho : ∀ p, p < L → od p = nI (o p) ∧ o p < nc) (hde : ∀ c, c < nc → de c = nI (dn c) ∧ dn c < 6) : Mi l yX4_sentencedIfStruck cX4_sentencedIfStruck 2 (some .int) 4 98 D cI cB cS [.ref (a 0), .int (nI x)] [oC a tr fa, oT a (nI L) (nI lw) (nI s0) sx un en se, ia (a 31) cI 5 tk, ia (a 32) cI 5 od, ia (a 33) cI 5 ve, ia (a 34) cI 6 vd, oK a si (nI nj) ca la sw sk rd, ia (a 21) cI 5 ag, ia (a 22) cI 5 de, ia (a 23) cI 5 ta, ia (a 24) cI 5 we] (fun r w => r = (sitS nj tk ag x lw dn ta we si s0 o L).2.2.2.2.1 ∧ w = [oC a tr fa, oT a (nI L) (nI lw) (nI s0) (nI x) (nI (sitS nj tk ag x lw dn ta we si s0 o L).2.2.1) ((sitS nj tk ag x lw dn ta we si s0 o L).2.2.2.1) ((sitS nj tk ag x lw dn ta we si s0 o L).2.2.2.2.1), ia (a 31) cI 5 tk, ia (a 32) cI 5 od, ia (a 33) cI 5 ((sitS nj tk ag x lw dn ta we si s0 o L).1), ia (a 34) cI 6 ((sitS nj tk ag x lw dn ta we si s0 o L).2.1), oK a si (nI nj) ca la sw sk rd, ia (a 21) cI 5 ag, ia (a 22) cI 5 de, ia (a 23) cI 5 ta, ia (a 24) cI 5 we]) := by
  refine Mi.of (by decide) (Nat.le_of_ble_eq_true rfl) ?_
  intro zp ze zs zm zb zt zc zz zA hA C hnm
  refine v_lv0 [(0, .ref (a 0)), (1, .int (nI x))] rfl ?_
  refine v_aload_n C dX4_sentencedIfStruck_0 0 rfl ?_
  refine v_get C f_X4_36 dX4_sentencedIfStruck_1 0 rfl rfl ?_
  refine v_iload_n C dX4_sentencedIfStruck_4 1 rfl ?_
  refine v_put C p_X4_181 [oC a tr fa, oT a (nI L) (nI lw) (nI s0) (nI x) un en se, ia (a 31) cI 5 tk, ia (a 32) cI 5 od, ia (a 33) cI 5 ve, ia (a 34) cI 6 vd, oK a si (nI nj) ca la sw sk rd, ia (a 21) cI 5 ag, ia (a 22) cI 5 de, ia (a 23) cI 5 ta, ia (a 24) cI 5 we] dX4_sentencedIfStruck_5 1 rfl rfl rfl (Nat.le_of_ble_eq_true rfl) rfl ?_
  refine v_aload_n C dX4_sentencedIfStruck_8 0 rfl ?_
  refine v_get C f_X4_36 dX4_sentencedIfStruck_9 0 rfl rfl ?_
  refine v_callMv C l_X4_124 (m_X2_hold a s0 x lw nj L nc o dn un en se tk od ve vd si ca la sw sk rd ag de ta we (by assumption) (by assumption) (by assumption) (by assumption) (by assumption) (by assumption) (by assumption) (by assumption) (by assumption)) (by decide) dX4_sentencedIfStruck_12 [1, 2, 3, 4, 5, 6, 7, 8, 9, 10] [0] (wr := [oC a tr fa]) (by decide) rfl rfl (by decide) (by decide) 1 rfl rfl rfl (rest := []) rfl (Nat.le_of_ble_eq_true rfl) (by decide) (fun w1 h2 => ?_)
  subst h2
  refine v_ws0 [oC a tr fa, oT a (nI L) (nI lw) (nI s0) (nI x) (nI (sitS nj tk ag x lw dn ta we si s0 o L).2.2.1) ((sitS nj tk ag x lw dn ta we si s0 o L).2.2.2.1) ((sitS nj tk ag x lw dn ta we si s0 o L).2.2.2.2.1), ia (a 31) cI 5 tk, ia (a 32) cI 5 od, ia (a 33) cI 5 ((sitS nj tk ag x lw dn ta we si s0 o L).1), ia (a 34) cI 6 ((sitS nj tk ag x lw dn ta we si s0 o L).2.1), oK a si (nI nj) ca la sw sk rd, ia (a 21) cI 5 ag, ia (a 22) cI 5 de, ia (a 23) cI 5 ta, ia (a 24) cI 5 we] rfl ?_
  refine v_aload_n C dX4_sentencedIfStruck_15 0 rfl ?_
  refine v_get C f_X4_36 dX4_sentencedIfStruck_16 0 rfl rfl ?_
  refine v_get C f_X4_130 dX4_sentencedIfStruck_19 1 rfl rfl ?_
  exact v_reti C hA dX4_sentencedIfStruck_22 rfl (⟨rfl, rfl⟩)
set_option maxHeartbeats 4000000 in
set_option maxRecDepth 100000 in
theorem m_X4_isAsRead {l : Launch} {D : va_G} {cI cB cS : ClassId} (a : Nat → Nat) (s0 st lw nj L nc nr : Nat) (o dn rn : Nat → Nat) (tr : Int32) (fa : Int32) (un : Int32) (en : Int32) (se : Int32) (tk : Nat → Int32) (od : Nat → Int32) (ve : Nat → Int32) (vd : Nat → Int32) (si : Int32) (ca : Int32) (la : Int32) (sw : Int32) (sk : Int32) (ag : Nat → Int32) (de : Nat → Int32) (ta : Nat → Int32) (we : Nat → Int32) (rC : Nat → Int32) (rH : Nat → Int32) (hnj : nj ≤ 5) (hst : st < 32) (hlw : lw < 64) (hp5 : 2 ^ nj ≤ 32) (hs0 : s0 < 2 ^ nj) (hL : L ≤ 5) (hnc : nc ≤ 5) (ho : ∀ p, p < L → od p = nI (o p) ∧ o p < nc) (hde : ∀ c, c < nc → de c = nI (dn c) ∧ dn c < 6) (hnr : nr ≤ 8) (hrc : ∀ q, q < nr → rC q = nI (rn q) ∧ rn q < nc) : Mi l yX4_isAsRead cX4_isAsRead 2 (some .boolean) 4 98 D cI cB cS [.ref (a 0)] [oC a tr fa, oT a (nI L) (nI lw) (nI s0) (nI st) un en se, ia (a 31) cI 5 tk, ia (a 32) cI 5 od, ia (a 33) cI 5 ve, ia (a 34) cI 6 vd, oK a si (nI nj) ca la sw sk (nI nr), ia (a 21) cI 5 ag, ia (a 22) cI 5 de, ia (a 23) cI 5 ta, ia (a 24) cI 5 we, ia (a 25) cI 8 rC, ia (a 26) cI 8 rH] (fun r w => r = bI (arB (sitS nj tk ag st lw dn ta we si s0 o L).1 rn rH nr = true) ∧ w = [oC a tr fa, oT a (nI L) (nI lw) (nI s0) (nI st) (nI (sitS nj tk ag st lw dn ta we si s0 o L).2.2.1) ((sitS nj tk ag st lw dn ta we si s0 o L).2.2.2.1) ((sitS nj tk ag st lw dn ta we si s0 o L).2.2.2.2.1), ia (a 31) cI 5 tk, ia (a 32) cI 5 od, ia (a 33) cI 5 ((sitS nj tk ag st lw dn ta we si s0 o L).1), ia (a 34) cI 6 ((sitS nj tk ag st lw dn ta we si s0 o L).2.1), oK a si (nI nj) ca la sw sk (nI nr), ia (a 21) cI 5 ag, ia (a 22) cI 5 de, ia (a 23) cI 5 ta, ia (a 24) cI 5 we, ia (a 25) cI 8 rC, ia (a 26) cI 8 rH]) := by
  refine Mi.of (by decide) (Nat.le_of_ble_eq_true rfl) ?_
  intro zp ze zs zm zb zt zc zz zA hA C hnm
  refine v_lv0 [(0, .ref (a 0))] rfl ?_
  refine v_aload_n C dX4_isAsRead_0 0 rfl ?_
  refine v_get C f_X4_36 dX4_isAsRead_1 0 rfl rfl ?_
  refine v_callMv C l_X4_124 (m_X2_hold a s0 st lw nj L nc o dn un en se tk od ve vd si ca la sw sk (nI nr) ag de ta we (by assumption) (by assumption) (by assumption) (by assumption) (by assumption) (by assumption) (by assumption) (by assumption) (by assumption)) (by decide) dX4_isAsRead_4 [1, 2, 3, 4, 5, 6, 7, 8, 9, 10] [0, 11, 12] (wr := [oC a tr fa, ia (a 25) cI 8 rC, ia (a 26) cI 8 rH]) (by decide) rfl rfl (by decide) (by decide) 1 rfl rfl rfl (rest := []) rfl (Nat.le_of_ble_eq_true rfl) (by decide) (fun w1 h2 => ?_)
  subst h2
  refine v_ws0 [oC a tr fa, ia (a 25) cI 8 rC, ia (a 26) cI 8 rH, oT a (nI L) (nI lw) (nI s0) (nI st) (nI (sitS nj tk ag st lw dn ta we si s0 o L).2.2.1) ((sitS nj tk ag st lw dn ta we si s0 o L).2.2.2.1) ((sitS nj tk ag st lw dn ta we si s0 o L).2.2.2.2.1), ia (a 31) cI 5 tk, ia (a 32) cI 5 od, ia (a 33) cI 5 ((sitS nj tk ag st lw dn ta we si s0 o L).1), ia (a 34) cI 6 ((sitS nj tk ag st lw dn ta we si s0 o L).2.1), oK a si (nI nj) ca la sw sk (nI nr), ia (a 21) cI 5 ag, ia (a 22) cI 5 de, ia (a 23) cI 5 ta, ia (a 24) cI 5 we] rfl ?_
  refine v_iconst C 0 dX4_isAsRead_7 (by decide) ?_
  refine v_istore_n C [(1, .int 0), (0, .ref (a 0))] dX4_isAsRead_8 (by decide) rfl ?_
  refine v_perm (ws' := [oC a tr fa, oT a (nI L) (nI lw) (nI s0) (nI st) (nI (sitS nj tk ag st lw dn ta we si s0 o L).2.2.1) ((sitS nj tk ag st lw dn ta we si s0 o L).2.2.2.1) ((sitS nj tk ag st lw dn ta we si s0 o L).2.2.2.2.1), ia (a 31) cI 5 tk, ia (a 32) cI 5 od, ia (a 33) cI 5 ((sitS nj tk ag st lw dn ta we si s0 o L).1), ia (a 34) cI 6 ((sitS nj tk ag st lw dn ta we si s0 o L).2.1), oK a si (nI nj) ca la sw sk (nI nr), ia (a 21) cI 5 ag, ia (a 22) cI 5 de, ia (a 23) cI 5 ta, ia (a 24) cI 5 we, ia (a 25) cI 8 rC, ia (a 26) cI 8 rH]) [0, 3, 4, 5, 6, 7, 8, 9, 10, 11, 12, 1, 2] (by decide) rfl ?_
  have lp : ∀ (n_5 : Nat) (q : Nat), nr - q < n_5 → (q ≤ nr) → (arB (sitS nj tk ag st lw dn ta we si s0 o L).1 rn rH q = true) → V zp l ze (rmOf 4 98) zs zm [.ref (a 0)].toArray zb zt zc D (IM zA zs) (QMi zb [.ref (a 0)].toArray zs D cI cB cS [oC a tr fa, oT a (nI L) (nI lw) (nI s0) (nI st) un en se, ia (a 31) cI 5 tk, ia (a 32) cI 5 od, ia (a 33) cI 5 ve, ia (a 34) cI 6 vd, oK a si (nI nj) ca la sw sk (nI nr), ia (a 21) cI 5 ag, ia (a 22) cI 5 de, ia (a 23) cI 5 ta, ia (a 24) cI 5 we, ia (a 25) cI 8 rC, ia (a 26) cI 8 rH] zz (fun r w => r = bI (arB (sitS nj tk ag st lw dn ta we si s0 o L).1 rn rH nr = true) ∧ w = [oC a tr fa, oT a (nI L) (nI lw) (nI s0) (nI st) (nI (sitS nj tk ag st lw dn ta we si s0 o L).2.2.1) ((sitS nj tk ag st lw dn ta we si s0 o L).2.2.2.1) ((sitS nj tk ag st lw dn ta we si s0 o L).2.2.2.2.1), ia (a 31) cI 5 tk, ia (a 32) cI 5 od, ia (a 33) cI 5 ((sitS nj tk ag st lw dn ta we si s0 o L).1), ia (a 34) cI 6 ((sitS nj tk ag st lw dn ta we si s0 o L).2.1), oK a si (nI nj) ca la sw sk (nI nr), ia (a 21) cI 5 ag, ia (a 22) cI 5 de, ia (a 23) cI 5 ta, ia (a 24) cI 5 we, ia (a 25) cI 8 rC, ia (a 26) cI 8 rH])) 0 0 2 [oC a tr fa, oT a (nI L) (nI lw) (nI s0) (nI st) (nI (sitS nj tk ag st lw dn ta we si s0 o L).2.2.1) ((sitS nj tk ag st lw dn ta we si s0 o L).2.2.2.1) ((sitS nj tk ag st lw dn ta we si s0 o L).2.2.2.2.1), ia (a 31) cI 5 tk, ia (a 32) cI 5 od, ia (a 33) cI 5 ((sitS nj tk ag st lw dn ta we si s0 o L).1), ia (a 34) cI 6 ((sitS nj tk ag st lw dn ta we si s0 o L).2.1), oK a si (nI nj) ca la sw sk (nI nr), ia (a 21) cI 5 ag, ia (a 22) cI 5 de, ia (a 23) cI 5 ta, ia (a 24) cI 5 we, ia (a 25) cI 8 rC, ia (a 26) cI 8 rH] [(1, .int (nI q)), (0, .ref (a 0))] 9 [] := by
    intro n_5
    induction n_5 with
    | zero => intro q b4; exact absurd b4 (by omega)
    | succ n_5 ihn_5 =>
      intro q b4 hq har
      refine v_iload_n C dX4_isAsRead_9 0 rfl ?_
      refine v_aload_n C dX4_isAsRead_10 1 rfl ?_
      refine v_get C f_X4_27 dX4_isAsRead_11 0 rfl rfl ?_
      refine v_get C f_X4_160 dX4_isAsRead_14 6 rfl rfl ?_
      refine v_icmp_ge C 57 dX4_isAsRead_17 (by decide) (fun c6 => ?_) (fun c6 => ?_)
      · have nc6 : nr ≤ q := nI_leD c6 (by omega)
        have hqe : q = nr := by omega
        refine v_iconst C 1 dX4_isAsRead_57 (by decide) ?_
        exact v_reti C hA dX4_isAsRead_58 rfl (⟨by rw [bI_t]; rw [← hqe]; exact har, rfl⟩)
      · have nc6 : q < nr := nI_ltD c6 (by omega)
        have hin : q < nr := nc6
        refine v_aload_n C dX4_isAsRead_20 1 rfl ?_
        refine v_get C f_X4_36 dX4_isAsRead_21 0 rfl rfl ?_
        refine v_get C f_X4_127 dX4_isAsRead_24 1 rfl rfl ?_
        refine v_aload_n C dX4_isAsRead_27 1 rfl ?_
        refine v_get C f_X4_27 dX4_isAsRead_28 0 rfl rfl ?_
        refine v_get C f_X4_163 dX4_isAsRead_31 6 rfl rfl ?_
        refine v_iload_n C dX4_isAsRead_34 0 rfl ?_
        refine v_ialdN C dX4_isAsRead_35 11 rfl q rfl (by omega) (by decide) ?_
        refine v_ialdN C dX4_isAsRead_36 4 rfl (rn q) (hrc q hin).1 (by have := (hrc q hin).2; omega) (by decide) ?_
        refine v_aload_n C dX4_isAsRead_37 1 rfl ?_
        refine v_get C f_X4_27 dX4_isAsRead_38 0 rfl rfl ?_
        refine v_get C f_X4_166 dX4_isAsRead_41 6 rfl rfl ?_
        refine v_iload_n C dX4_isAsRead_44 0 rfl ?_
        refine v_ialdN C dX4_isAsRead_45 12 rfl q rfl (by omega) (by decide) ?_
        refine v_icmp_eq C 51 dX4_isAsRead_46 (by decide) (fun c7 => ?_) (fun c7 => ?_)
        · refine v_iinc C (nI (q + 1)) [(1, .int (nI (q + 1))), (0, .ref (a 0))] 0 dX4_isAsRead_51 rfl (nI_inc _) (by decide) rfl ?_
          refine v_goto C 9 dX4_isAsRead_54 (by decide) ?_
          exact ihn_5 (q + 1) (by omega) (by omega) (by rw [arB, har]; simp [c7])
        · refine v_iconst C 0 dX4_isAsRead_49 (by decide) ?_
          exact v_reti C hA dX4_isAsRead_50 rfl (⟨by rw [bI_f]; rw [arB_no c7 nr hin]; decide, rfl⟩)
  exact lp (nr - 0 + 1) 0 (by omega) (by omega) rfl
set_option maxHeartbeats 4000000 in
set_option maxRecDepth 100000 in
theorem m_X4_mostByCourtsStrike {l : Launch} {D : va_G} {cI cB cS : ClassId} (a : Nat → Nat) (x s0 lw nj L nc : Nat) (o dn : Nat → Nat) (tr : Int32) (fa : Int32) (sx : Int32) (un : Int32) (en : Int32) (se : Int32) (tk : Nat → Int32) (od : Nat → Int32) (ve : Nat → Int32) (vd : Nat → Int32) (si : Int32) (ca : Int32) (la : Int32) (sw : Int32) (sk : Int32) (rd : Int32) (ag : Nat → Int32) (de : Nat → Int32) (ta : Nat → Int32) (we : Nat → Int32) (hx : x < 2 ^ nj) (hnj : nj ≤ 5) (hlw : lw < 64) (hp5 : 2 ^ nj ≤ 32) (hs0 : s0 < 2 ^ nj) (hL : L ≤ 5) (hnc : nc ≤ 5) (ho : ∀ p, p < L → od p = nI (o p) ∧ o p < nc) (hde : ∀ c, c < nc → de c = nI (dn c) ∧ dn c < 6) : Mi l yX4_mostByCourtsStrike cX4_mostByCourtsStrike 4 (some .int) 5 119 D cI cB cS [.ref (a 0), .int (nI x)] [oC a tr fa, oT a (nI L) (nI lw) (nI s0) sx un en se, ia (a 31) cI 5 tk, ia (a 32) cI 5 od, ia (a 33) cI 5 ve, ia (a 34) cI 6 vd, oK a si (nI nj) ca la sw sk rd, ia (a 21) cI 5 ag, ia (a 22) cI 5 de, ia (a 23) cI 5 ta, ia (a 24) cI 5 we] (fun r w => ∃ (sx' : Int32) (ve' : Nat → Int32) (vd' : Nat → Int32) (un' : Int32) (en' : Int32) (se' : Int32), r = mbF (fun y => (sitS nj tk ag y lw dn ta we si s0 o L).2.2.2.2.1) x nj ∧ w = [oC a tr fa, oT a (nI L) (nI lw) (nI s0) sx' un' en' se', ia (a 31) cI 5 tk, ia (a 32) cI 5 od, ia (a 33) cI 5 ve', ia (a 34) cI 6 vd', oK a si (nI nj) ca la sw sk rd, ia (a 21) cI 5 ag, ia (a 22) cI 5 de, ia (a 23) cI 5 ta, ia (a 24) cI 5 we]) := by
  refine Mi.of (by decide) (Nat.le_of_ble_eq_true rfl) ?_
  intro zp ze zs zm zb zt zc zz zA hA C hnm
  refine v_lv0 [(0, .ref (a 0)), (1, .int (nI x))] rfl ?_
  refine v_bipush C (-9) dX4_mostByCourtsStrike_0 (by decide) ?_
  refine v_istore_n C [(2, .int (-9)), (0, .ref (a 0)), (1, .int (nI x))] dX4_mostByCourtsStrike_2 (by decide) rfl ?_
  refine v_iconst C 0 dX4_mostByCourtsStrike_3 (by decide) ?_
  refine v_istore_n C [(3, .int 0), (2, .int (-9)), (0, .ref (a 0)), (1, .int (nI x))] dX4_mostByCourtsStrike_4 (by decide) rfl ?_
  have lp : ∀ (n_2 : Nat) (j : Nat) (mo : Int32) (sx1 : Int32) (ve1 : Nat → Int32) (vd1 : Nat → Int32) (un1 : Int32) (en1 : Int32) (se1 : Int32), nj - j < n_2 → (j ≤ nj) → (mbS (fun y => (sitS nj tk ag y lw dn ta we si s0 o L).2.2.2.2.1) x j = mo) → V zp l ze (rmOf 5 119) zs zm [.ref (a 0), .int (nI x)].toArray zb zt zc D (IM zA zs) (QMi zb [.ref (a 0), .int (nI x)].toArray zs D cI cB cS [oC a tr fa, oT a (nI L) (nI lw) (nI s0) sx un en se, ia (a 31) cI 5 tk, ia (a 32) cI 5 od, ia (a 33) cI 5 ve, ia (a 34) cI 6 vd, oK a si (nI nj) ca la sw sk rd, ia (a 21) cI 5 ag, ia (a 22) cI 5 de, ia (a 23) cI 5 ta, ia (a 24) cI 5 we] zz (fun r w => ∃ (sx' : Int32) (ve' : Nat → Int32) (vd' : Nat → Int32) (un' : Int32) (en' : Int32) (se' : Int32), r = mbF (fun y => (sitS nj tk ag y lw dn ta we si s0 o L).2.2.2.2.1) x nj ∧ w = [oC a tr fa, oT a (nI L) (nI lw) (nI s0) sx' un' en' se', ia (a 31) cI 5 tk, ia (a 32) cI 5 od, ia (a 33) cI 5 ve', ia (a 34) cI 6 vd', oK a si (nI nj) ca la sw sk rd, ia (a 21) cI 5 ag, ia (a 22) cI 5 de, ia (a 23) cI 5 ta, ia (a 24) cI 5 we])) 0 0 4 [oC a tr fa, oT a (nI L) (nI lw) (nI s0) sx1 un1 en1 se1, ia (a 31) cI 5 tk, ia (a 32) cI 5 od, ia (a 33) cI 5 ve1, ia (a 34) cI 6 vd1, oK a si (nI nj) ca la sw sk rd, ia (a 21) cI 5 ag, ia (a 22) cI 5 de, ia (a 23) cI 5 ta, ia (a 24) cI 5 we] [(3, .int (nI j)), (2, .int mo), (0, .ref (a 0)), (1, .int (nI x))] 5 [] := by
    intro n_2
    induction n_2 with
    | zero => intro j mo sx1 ve1 vd1 un1 en1 se1 b1; exact absurd b1 (by omega)
    | succ n_2 ihn_2 =>
      intro j mo sx1 ve1 vd1 un1 en1 se1 b1 hj hmo
      refine v_iload_n C dX4_mostByCourtsStrike_5 0 rfl ?_
      refine v_aload_n C dX4_mostByCourtsStrike_6 2 rfl ?_
      refine v_get C f_X4_27 dX4_mostByCourtsStrike_7 0 rfl rfl ?_
      refine v_get C f_X4_151 dX4_mostByCourtsStrike_10 6 rfl rfl ?_
      refine v_icmp_ge C 45 dX4_mostByCourtsStrike_13 (by decide) (fun c3 => ?_) (fun c3 => ?_)
      · have nc3 : nj ≤ j := nI_leD c3 (by omega)
        have hje : j = nj := by omega
        refine v_iload_n C dX4_mostByCourtsStrike_45 1 rfl ?_
        refine v_bipush C (-9) dX4_mostByCourtsStrike_46 (by decide) ?_
        refine v_icmp_ne C 59 dX4_mostByCourtsStrike_48 (by decide) (fun c4 => ?_) (fun c4 => ?_)
        · refine v_iload_n C dX4_mostByCourtsStrike_59 1 rfl ?_
          exact v_reti C hA dX4_mostByCourtsStrike_60 rfl (⟨_, _, _, _, _, _, by rw [mbF, ← hje, hmo]; rw [if_neg c4], rfl⟩)
        · refine v_aload_n C dX4_mostByCourtsStrike_51 2 rfl ?_
          refine v_iload_n C dX4_mostByCourtsStrike_52 3 rfl ?_
          refine v_callMi C l_X4_157 (m_X4_sentencedIfStruck a x s0 lw nj L nc o dn tr fa sx1 un1 en1 se1 tk od ve1 vd1 si ca la sw sk rd ag de ta we (by omega) (by assumption) (by assumption) (by assumption) (by assumption) (by assumption) (by assumption) (by assumption) (by assumption)) (by decide) dX4_mostByCourtsStrike_53 [0, 1, 2, 3, 4, 5, 6, 7, 8, 9, 10] [] (wr := []) (by decide) rfl rfl (by decide) (by decide) 0 rfl rfl rfl (rest := []) rfl (Nat.le_of_ble_eq_true rfl) (by decide) (fun r7 w5 h6 => ?_)
          obtain ⟨rfl, rfl⟩ := h6
          refine v_ws0 [oC a tr fa, oT a (nI L) (nI lw) (nI s0) (nI x) (nI (sitS nj tk ag x lw dn ta we si s0 o L).2.2.1) ((sitS nj tk ag x lw dn ta we si s0 o L).2.2.2.1) ((sitS nj tk ag x lw dn ta we si s0 o L).2.2.2.2.1), ia (a 31) cI 5 tk, ia (a 32) cI 5 od, ia (a 33) cI 5 ((sitS nj tk ag x lw dn ta we si s0 o L).1), ia (a 34) cI 6 ((sitS nj tk ag x lw dn ta we si s0 o L).2.1), oK a si (nI nj) ca la sw sk rd, ia (a 21) cI 5 ag, ia (a 22) cI 5 de, ia (a 23) cI 5 ta, ia (a 24) cI 5 we] rfl ?_
          refine v_goto C 60 dX4_mostByCourtsStrike_56 (by decide) ?_
          exact v_reti C hA dX4_mostByCourtsStrike_60 rfl (⟨_, _, _, _, _, _, by rw [mbF, ← hje, hmo]; rw [if_pos c4], rfl⟩)
      · have nc3 : j < nj := nI_ltD c3 (by omega)
        refine v_iload_n C dX4_mostByCourtsStrike_16 3 rfl ?_
        refine v_iload_n C dX4_mostByCourtsStrike_17 0 rfl ?_
        refine v_callSi C l_X4_87 (m_X4_bitOf x j (by omega) (by omega)) (by decide) dX4_mostByCourtsStrike_18 [] rfl rfl (rest := []) rfl (Nat.le_of_ble_eq_true rfl) (by decide) (fun r8 h9 => ?_)
        subst h9
        by_cases c10 : x.testBit j = true
        · refine v_eqi 1 (bI_t c10) ?_
          refine v_if_ne C 39 dX4_mostByCourtsStrike_21 (by decide) (fun _ => ?_) (fun h => absurd h (by decide))
          refine v_iinc C (nI (j + 1)) [(3, .int (nI (j + 1))), (2, .int mo), (0, .ref (a 0)), (1, .int (nI x))] 0 dX4_mostByCourtsStrike_39 rfl (nI_inc _) (by decide) rfl ?_
          refine v_goto C 5 dX4_mostByCourtsStrike_42 (by decide) ?_
          exact ihn_2 (j + 1) mo sx1 ve1 vd1 un1 en1 se1 (by omega) (by omega) (by rw [mbS, if_pos c10]; exact hmo)
        · refine v_eqi 0 (bI_f c10) ?_
          refine v_if_ne C 39 dX4_mostByCourtsStrike_21 (by decide) (fun h => absurd h (by decide)) (fun _ => ?_)
          refine v_iload_n C dX4_mostByCourtsStrike_24 1 rfl ?_
          refine v_aload_n C dX4_mostByCourtsStrike_25 2 rfl ?_
          refine v_iload_n C dX4_mostByCourtsStrike_26 3 rfl ?_
          refine v_iload_n C dX4_mostByCourtsStrike_27 0 rfl ?_
          refine v_iconst C 1 dX4_mostByCourtsStrike_28 (by decide) ?_
          refine v_callSi C l_X4_113 (m_X4_withBit x j 1 (by omega) (by omega)) (by decide) dX4_mostByCourtsStrike_29 [] rfl rfl (rest := [.ref (a 0), .int mo]) rfl (Nat.le_of_ble_eq_true rfl) (by decide) (fun r11 h12 => ?_)
          subst h12
          refine v_eqi (nI (set1 x j)) (rfl) ?_
          refine v_callMi C l_X4_157 (m_X4_sentencedIfStruck a (set1 x j) s0 lw nj L nc o dn tr fa sx1 un1 en1 se1 tk od ve1 vd1 si ca la sw sk rd ag de ta we (by have q := set1_lt nj (by omega) x hx j (by omega); omega) (by assumption) (by assumption) (by assumption) (by assumption) (by assumption) (by assumption) (by assumption) (by assumption)) (by decide) dX4_mostByCourtsStrike_32 [0, 1, 2, 3, 4, 5, 6, 7, 8, 9, 10] [] (wr := []) (by decide) rfl rfl (by decide) (by decide) 0 rfl rfl rfl (rest := [.int mo]) rfl (Nat.le_of_ble_eq_true rfl) (by decide) (fun r15 w13 h14 => ?_)
          obtain ⟨rfl, rfl⟩ := h14
          refine v_ws0 [oC a tr fa, oT a (nI L) (nI lw) (nI s0) (nI (set1 x j)) (nI (sitS nj tk ag (set1 x j) lw dn ta we si s0 o L).2.2.1) ((sitS nj tk ag (set1 x j) lw dn ta we si s0 o L).2.2.2.1) ((sitS nj tk ag (set1 x j) lw dn ta we si s0 o L).2.2.2.2.1), ia (a 31) cI 5 tk, ia (a 32) cI 5 od, ia (a 33) cI 5 ((sitS nj tk ag (set1 x j) lw dn ta we si s0 o L).1), ia (a 34) cI 6 ((sitS nj tk ag (set1 x j) lw dn ta we si s0 o L).2.1), oK a si (nI nj) ca la sw sk rd, ia (a 21) cI 5 ag, ia (a 22) cI 5 de, ia (a 23) cI 5 ta, ia (a 24) cI 5 we] rfl ?_
          refine v_max C lm_X4_247 dX4_mostByCourtsStrike_35 (by decide) (Nat.le_of_ble_eq_true rfl) (by decide) (by decide) ?_
          have hmx : mbS (fun y => (sitS nj tk ag y lw dn ta we si s0 o L).2.2.2.2.1) x (j + 1) = (if mo < (fun y => (sitS nj tk ag y lw dn ta we si s0 o L).2.2.2.2.1) (set1 x j) then (fun y => (sitS nj tk ag y lw dn ta we si s0 o L).2.2.2.2.1) (set1 x j) else mo) := by rw [mbS, hmo, if_neg (by assumption)]
          refine v_eqi (mbS (fun y => (sitS nj tk ag y lw dn ta we si s0 o L).2.2.2.2.1) x (j + 1)) (hmx.symm) ?_
          refine v_istore_n C [(2, .int (mbS (fun y => (sitS nj tk ag y lw dn ta we si s0 o L).2.2.2.2.1) x (j + 1))), (3, .int (nI j)), (0, .ref (a 0)), (1, .int (nI x))] dX4_mostByCourtsStrike_38 (by decide) rfl ?_
          refine v_iinc C (nI (j + 1)) [(3, .int (nI (j + 1))), (2, .int (mbS (fun y => (sitS nj tk ag y lw dn ta we si s0 o L).2.2.2.2.1) x (j + 1))), (0, .ref (a 0)), (1, .int (nI x))] 1 dX4_mostByCourtsStrike_39 rfl (nI_inc _) (by decide) rfl ?_
          refine v_goto C 5 dX4_mostByCourtsStrike_42 (by decide) ?_
          exact ihn_2 (j + 1) (mbS (fun y => (sitS nj tk ag y lw dn ta we si s0 o L).2.2.2.2.1) x (j + 1)) (nI (set1 x j)) ((sitS nj tk ag (set1 x j) lw dn ta we si s0 o L).1) ((sitS nj tk ag (set1 x j) lw dn ta we si s0 o L).2.1) (nI (sitS nj tk ag (set1 x j) lw dn ta we si s0 o L).2.2.1) ((sitS nj tk ag (set1 x j) lw dn ta we si s0 o L).2.2.2.1) ((sitS nj tk ag (set1 x j) lw dn ta we si s0 o L).2.2.2.2.1) (by omega) (by omega) rfl
  exact lp (nj - 0 + 1) 0 (-9) sx ve vd un en se (by omega) (by omega) rfl
