theorem raw_sh : ∀ n, n < 6 → (1 : Int32) <<< (nI n &&& 31) = nI (2 ^ n) := by decide +kernel
theorem raw_and2 : ∀ a, a < 64 → ∀ b, b < 64 → nI a &&& nI b = nI (a &&& b) := by decide +kernel
theorem raw_or2 : ∀ a, a < 64 → ∀ b, b < 64 → nI a ||| nI b = nI (a ||| b) := by decide +kernel
/-- the fewest sweets, among the first sets -/
def fsF (gu : Nat → Bool) (sw : Nat) : Nat → Int32
  | 0 => -9
  | y + 1 => if y &&& sw = 0 ∧ (fsF gu sw y = -9 ∨ ¬ bcF (fsF gu sw y) ≤ bcF (nI y)) then (if gu y = true then fsF gu sw y else nI y) else fsF gu sw y
/-- the highest of the first values, and its number -/
def fhS (v : Nat → Int32) (sg : Int32) : Nat → Int32 × Nat
  | 0 => (-1000, 0)
  | k + 1 => if sg * v k ≤ (fhS v sg k).1 then fhS v sg k else (sg * v k, k)
theorem fh_pos {v : Nat → Int32} {sg hi : Int32} {k bk : Nat} (hf : fhS v sg k = (hi, bk)) (h : sg * v k ≤ hi) (hv : ¬ sg * v 0 ≤ -1000) : 0 < k := by
  rcases Nat.eq_zero_or_pos k with q | q
  · subst q
    rw [fhS] at hf
    cases hf
    exact absurd h hv
  · exact q
set_option maxHeartbeats 4000000 in
set_option maxRecDepth 100000 in
theorem m_X4_sentencedIfStruck {l : Launch} {D : va_G} {cI cB cS : ClassId} (a : Nat → Nat) (x s0 lw nj L nc : Nat) (o dn : Nat → Nat) (tr : Int32) (fa : Int32) (sx : Int32) (un : Int32) (en : Int32) (se : Int32) (tk : Nat → Int32) (od : Nat → Int32) (ve : Nat → Int32) (vd : Nat → Int32) (si : Int32) (ca : Int32) (la : Int32) (sw : Int32) (sk : Int32) (rd : Int32) (ag : Nat → Int32) (de : Nat → Int32) (ta : Nat → Int32) (we : Nat → Int32) (hst : x < 32) (hnj : nj ≤ 5) (hlw : lw < 64) (hp5 : 2 ^ nj ≤ 32) (hs0 : s0 < 2 ^ nj) (hL : L ≤ 5) (hnc : nc ≤ 5) (ho : ∀ p, p < L → od p = nI (o p) ∧ o p < nc) (hde : ∀ c, c < nc → de c = nI (dn c) ∧ dn c < 6) : Mi l yX4_sentencedIfStruck cX4_sentencedIfStruck 2 (some .int) 4 98 D cI cB cS [.ref (a 0), .int (nI x)] [oC a tr fa, oT a (nI L) (nI lw) (nI s0) sx un en se, ia (a 31) cI 5 tk, ia (a 32) cI 5 od, ia (a 33) cI 5 ve, ia (a 34) cI 6 vd, oK a si (nI nj) ca la sw sk rd, ia (a 21) cI 5 ag, ia (a 22) cI 5 de, ia (a 23) cI 5 ta, ia (a 24) cI 5 we] (fun r w => r = (sitS nj tk ag x lw dn ta we si s0 o L).2.2.2.2.1 ∧ w = [oC a tr fa, oT a (nI L) (nI lw) (nI s0) (nI x) (nI (sitS nj tk ag x lw dn ta we si s0 o L).2.2.1) ((sitS nj tk ag x lw dn ta we si s0 o L).2.2.2.1) ((sitS nj tk ag x lw dn ta we si s0 o L).2.2.2.2.1), ia (a 31) cI 5 tk, ia (a 32) cI 5 od, ia (a 33) cI 5 ((sitS nj tk ag x lw dn ta we si s0 o L).1), ia (a 34) cI 6 ((sitS nj tk ag x lw dn ta we si s0 o L).2.1), oK a si (nI nj) ca la sw sk rd, ia (a 21) cI 5 ag, ia (a 22) cI 5 de, ia (a 23) cI 5 ta, ia (a 24) cI 5 we]) := by
  refine Mi.of (by decide) (Nat.le_of_ble_eq_true rfl) ?_
  intro zp ze zs zm zb zt zc zz zA hA C hnm
  refine v_lv0 [(0, .ref (a 0)), (1, .int (nI x))] rfl ?_
  refine v_aload_n C dX4_sentencedIfStruck_0 0 rfl ?_
  refine v_get C f_X4_36 dX4_sentencedIfStruck_1 0 rfl rfl ?_
  refine v_iload_n C dX4_sentencedIfStruck_4 1 rfl ?_
  refine v_put C p_X4_181 [oC a tr fa, oT a (nI L) (nI lw) (nI s0) (nI x) un en se, ia (a 31) cI 5 tk, ia (a 32) cI 5 od, ia (a 33) cI 5 ve, ia (a 34) cI 6 vd, oK a si (nI nj) ca la sw sk rd, ia (a 21) cI 5 ag, ia (a 22) cI 5 de, ia (a 23) cI 5 ta, ia (a 24) cI 5 we] dX4_sentencedIfStruck_5 1 rfl rfl rfl (Nat.le_of_ble_eq_true rfl) rfl ?_
  refine v_aload_n C dX4_sentencedIfStruck_8 0 rfl ?_
  refine v_get C f_X4_36 dX4_sentencedIfStruck_9 0 rfl rfl ?_
  refine v_callMv C l_X4_124 (m_X2_hold a s0 x lw nj L nc o dn un en se tk od ve vd si ca la sw sk rd ag de ta we (by assumption) (by assumption) (by assumption) (by assumption) (by assumption) (by assumption) (by assumption) (by assumption) (by assumption)) (by decide) dX4_sentencedIfStruck_12 [1, 2, 3, 4, 5, 6, 7, 8, 9, 10] [0] (wr := [oC a tr fa]) (by decide) rfl rfl (by decide) (by decide) 1 rfl rfl rfl (rest := []) rfl (Nat.le_of_ble_eq_true rfl) (by decide) (fun w1 h2 => ?_)
  subst h2
  refine v_ws0 [oC a tr fa, oT a (nI L) (nI lw) (nI s0) (nI x) (nI (sitS nj tk ag x lw dn ta we si s0 o L).2.2.1) ((sitS nj tk ag x lw dn ta we si s0 o L).2.2.2.1) ((sitS nj tk ag x lw dn ta we si s0 o L).2.2.2.2.1), ia (a 31) cI 5 tk, ia (a 32) cI 5 od, ia (a 33) cI 5 ((sitS nj tk ag x lw dn ta we si s0 o L).1), ia (a 34) cI 6 ((sitS nj tk ag x lw dn ta we si s0 o L).2.1), oK a si (nI nj) ca la sw sk rd, ia (a 21) cI 5 ag, ia (a 22) cI 5 de, ia (a 23) cI 5 ta, ia (a 24) cI 5 we] rfl ?_
  refine v_aload_n C dX4_sentencedIfStruck_15 0 rfl ?_
  refine v_get C f_X4_36 dX4_sentencedIfStruck_16 0 rfl rfl ?_
  refine v_get C f_X4_130 dX4_sentencedIfStruck_19 1 rfl rfl ?_
  exact v_reti C hA dX4_sentencedIfStruck_22 rfl (⟨rfl, rfl⟩)
set_option maxHeartbeats 4000000 in
set_option maxRecDepth 100000 in
theorem m_X4_isAsRead {l : Launch} {D : va_G} {cI cB cS : ClassId} (a : Nat → Nat) (s0 st lw nj L nc nr : Nat) (o dn rn : Nat → Nat) (tr : Int32) (fa : Int32) (un : Int32) (en : Int32) (se : Int32) (tk : Nat → Int32) (od : Nat → Int32) (ve : Nat → Int32) (vd : Nat → Int32) (si : Int32) (ca : Int32) (la : Int32) (sw : Int32) (sk : Int32) (ag : Nat → Int32) (de : Nat → Int32) (ta : Nat → Int32) (we : Nat → Int32) (rC : Nat → Int32) (rH : Nat → Int32) (hnj : nj ≤ 5) (hst : st < 32) (hlw : lw < 64) (hp5 : 2 ^ nj ≤ 32) (hs0 : s0 < 2 ^ nj) (hL : L ≤ 5) (hnc : nc ≤ 5) (ho : ∀ p, p < L → od p = nI (o p) ∧ o p < nc) (hde : ∀ c, c < nc → de c = nI (dn c) ∧ dn c < 6) (hnr : nr ≤ 8) (hrc : ∀ q, q < nr → rC q = nI (rn q) ∧ rn q < nc) : Mi l yX4_isAsRead cX4_isAsRead 2 (some .boolean) 4 98 D cI cB cS [.ref (a 0)] [oC a tr fa, oT a (nI L) (nI lw) (nI s0) (nI st) un en se, ia (a 31) cI 5 tk, ia (a 32) cI 5 od, ia (a 33) cI 5 ve, ia (a 34) cI 6 vd, oK a si (nI nj) ca la sw sk (nI nr), ia (a 21) cI 5 ag, ia (a 22) cI 5 de, ia (a 23) cI 5 ta, ia (a 24) cI 5 we, ia (a 25) cI 8 rC, ia (a 26) cI 8 rH] (fun r w => r = bI (arB (sitS nj tk ag st lw dn ta we si s0 o L).1 rn rH nr = true) ∧ w = [oC a tr fa, oT a (nI L) (nI lw) (nI s0) (nI st) (nI (sitS nj tk ag st lw dn ta we si s0 o L).2.2.1) ((sitS nj tk ag st lw dn ta we si s0 o L).2.2.2.1) ((sitS nj tk ag st lw dn ta we si s0 o L).2.2.2.2.1), ia (a 31) cI 5 tk, ia (a 32) cI 5 od, ia (a 33) cI 5 ((sitS nj tk ag st lw dn ta we si s0 o L).1), ia (a 34) cI 6 ((sitS nj tk ag st lw dn ta we si s0 o L).2.1), oK a si (nI nj) ca la sw sk (nI nr), ia (a 21) cI 5 ag, ia (a 22) cI 5 de, ia (a 23) cI 5 ta, ia (a 24) cI 5 we, ia (a 25) cI 8 rC, ia (a 26) cI 8 rH]) := by
  refine Mi.of (by decide) (Nat.le_of_ble_eq_true rfl) ?_
  intro zp ze zs zm zb zt zc zz zA hA C hnm
  refine v_lv0 [(0, .ref (a 0))] rfl ?_
  refine v_aload_n C dX4_isAsRead_0 0 rfl ?_
  refine v_get C f_X4_36 dX4_isAsRead_1 0 rfl rfl ?_
  refine v_callMv C l_X4_124 (m_X2_hold a s0 st lw nj L nc o dn un en se tk od ve vd si ca la sw sk (nI nr) ag de ta we (by assumption) (by assumption) (by assumption) (by assumption) (by assumption) (by assumption) (by assumption) (by assumption) (by assumption)) (by decide) dX4_isAsRead_4 [1, 2, 3, 4, 5, 6, 7, 8, 9, 10] [0, 11, 12] (wr := [oC a tr fa, ia (a 25) cI 8 rC, ia (a 26) cI 8 rH]) (by decide) rfl rfl (by decide) (by decide) 1 rfl rfl rfl (rest := []) rfl (Nat.le_of_ble_eq_true rfl) (by decide) (fun w1 h2 => ?_)
  subst h2
  refine v_ws0 [oC a tr fa, ia (a 25) cI 8 rC, ia (a 26) cI 8 rH, oT a (nI L) (nI lw) (nI s0) (nI st) (nI (sitS nj tk ag st lw dn ta we si s0 o L).2.2.1) ((sitS nj tk ag st lw dn ta we si s0 o L).2.2.2.1) ((sitS nj tk ag st lw dn ta we si s0 o L).2.2.2.2.1), ia (a 31) cI 5 tk, ia (a 32) cI 5 od, ia (a 33) cI 5 ((sitS nj tk ag st lw dn ta we si s0 o L).1), ia (a 34) cI 6 ((sitS nj tk ag st lw dn ta we si s0 o L).2.1), oK a si (nI nj) ca la sw sk (nI nr), ia (a 21) cI 5 ag, ia (a 22) cI 5 de, ia (a 23) cI 5 ta, ia (a 24) cI 5 we] rfl ?_
  refine v_iconst C 0 dX4_isAsRead_7 (by decide) ?_
  refine v_istore_n C [(1, .int 0), (0, .ref (a 0))] dX4_isAsRead_8 (by decide) rfl ?_
  refine v_perm (ws' := [oC a tr fa, oT a (nI L) (nI lw) (nI s0) (nI st) (nI (sitS nj tk ag st lw dn ta we si s0 o L).2.2.1) ((sitS nj tk ag st lw dn ta we si s0 o L).2.2.2.1) ((sitS nj tk ag st lw dn ta we si s0 o L).2.2.2.2.1), ia (a 31) cI 5 tk, ia (a 32) cI 5 od, ia (a 33) cI 5 ((sitS nj tk ag st lw dn ta we si s0 o L).1), ia (a 34) cI 6 ((sitS nj tk ag st lw dn ta we si s0 o L).2.1), oK a si (nI nj) ca la sw sk (nI nr), ia (a 21) cI 5 ag, ia (a 22) cI 5 de, ia (a 23) cI 5 ta, ia (a 24) cI 5 we, ia (a 25) cI 8 rC, ia (a 26) cI 8 rH]) [0, 3, 4, 5, 6, 7, 8, 9, 10, 11, 12, 1, 2] (by decide) rfl ?_
  have lp : ∀ (n_5 : Nat) (q : Nat), nr - q < n_5 → (q ≤ nr) → (arB (sitS nj tk ag st lw dn ta we si s0 o L).1 rn rH q = true) → V zp l ze (rmOf 4 98) zs zm [.ref (a 0)].toArray zb zt zc D (IM zA zs) (QMi zb [.ref (a 0)].toArray zs D cI cB cS [oC a tr fa, oT a (nI L) (nI lw) (nI s0) (nI st) un en se, ia (a 31) cI 5 tk, ia (a 32) cI 5 od, ia (a 33) cI 5 ve, ia (a 34) cI 6 vd, oK a si (nI nj) ca la sw sk (nI nr), ia (a 21) cI 5 ag, ia (a 22) cI 5 de, ia (a 23) cI 5 ta, ia (a 24) cI 5 we, ia (a 25) cI 8 rC, ia (a 26) cI 8 rH] zz (fun r w => r = bI (arB (sitS nj tk ag st lw dn ta we si s0 o L).1 rn rH nr = true) ∧ w = [oC a tr fa, oT a (nI L) (nI lw) (nI s0) (nI st) (nI (sitS nj tk ag st lw dn ta we si s0 o L).2.2.1) ((sitS nj tk ag st lw dn ta we si s0 o L).2.2.2.1) ((sitS nj tk ag st lw dn ta we si s0 o L).2.2.2.2.1), ia (a 31) cI 5 tk, ia (a 32) cI 5 od, ia (a 33) cI 5 ((sitS nj tk ag st lw dn ta we si s0 o L).1), ia (a 34) cI 6 ((sitS nj tk ag st lw dn ta we si s0 o L).2.1), oK a si (nI nj) ca la sw sk (nI nr), ia (a 21) cI 5 ag, ia (a 22) cI 5 de, ia (a 23) cI 5 ta, ia (a 24) cI 5 we, ia (a 25) cI 8 rC, ia (a 26) cI 8 rH])) 0 0 2 [oC a tr fa, oT a (nI L) (nI lw) (nI s0) (nI st) (nI (sitS nj tk ag st lw dn ta we si s0 o L).2.2.1) ((sitS nj tk ag st lw dn ta we si s0 o L).2.2.2.1) ((sitS nj tk ag st lw dn ta we si s0 o L).2.2.2.2.1), ia (a 31) cI 5 tk, ia (a 32) cI 5 od, ia (a 33) cI 5 ((sitS nj tk ag st lw dn ta we si s0 o L).1), ia (a 34) cI 6 ((sitS nj tk ag st lw dn ta we si s0 o L).2.1), oK a si (nI nj) ca la sw sk (nI nr), ia (a 21) cI 5 ag, ia (a 22) cI 5 de, ia (a 23) cI 5 ta, ia (a 24) cI 5 we, ia (a 25) cI 8 rC, ia (a 26) cI 8 rH] [(1, .int (nI q)), (0, .ref (a 0))] 9 [] := by
    intro n_5
    induction n_5 with
    | zero => intro q b4; exact absurd b4 (by omega)
    | succ n_5 ihn_5 =>
      intro q b4 hq har
      refine v_iload_n C dX4_isAsRead_9 0 rfl ?_
      refine v_aload_n C dX4_isAsRead_10 1 rfl ?_
      refine v_get C f_X4_27 dX4_isAsRead_11 0 rfl rfl ?_
      refine v_get C f_X4_160 dX4_isAsRead_14 6 rfl rfl ?_
      refine v_icmp_ge C 57 dX4_isAsRead_17 (by decide) (fun c6 => ?_) (fun c6 => ?_)
      · have nc6 : nr ≤ q := nI_leD c6 (by omega)
        have hqe : q = nr := by omega
        refine v_iconst C 1 dX4_isAsRead_57 (by decide) ?_
        exact v_reti C hA dX4_isAsRead_58 rfl (⟨by rw [bI_t]; rw [← hqe]; exact har, rfl⟩)
      · have nc6 : q < nr := nI_ltD c6 (by omega)
        have hin : q < nr := nc6
        refine v_aload_n C dX4_isAsRead_20 1 rfl ?_
        refine v_get C f_X4_36 dX4_isAsRead_21 0 rfl rfl ?_
        refine v_get C f_X4_127 dX4_isAsRead_24 1 rfl rfl ?_
        refine v_aload_n C dX4_isAsRead_27 1 rfl ?_
        refine v_get C f_X4_27 dX4_isAsRead_28 0 rfl rfl ?_
        refine v_get C f_X4_163 dX4_isAsRead_31 6 rfl rfl ?_
        refine v_iload_n C dX4_isAsRead_34 0 rfl ?_
        refine v_ialdN C dX4_isAsRead_35 11 rfl q rfl (by omega) (by decide) ?_
        refine v_ialdN C dX4_isAsRead_36 4 rfl (rn q) (hrc q hin).1 (by have := (hrc q hin).2; omega) (by decide) ?_
        refine v_aload_n C dX4_isAsRead_37 1 rfl ?_
        refine v_get C f_X4_27 dX4_isAsRead_38 0 rfl rfl ?_
        refine v_get C f_X4_166 dX4_isAsRead_41 6 rfl rfl ?_
        refine v_iload_n C dX4_isAsRead_44 0 rfl ?_
        refine v_ialdN C dX4_isAsRead_45 12 rfl q rfl (by omega) (by decide) ?_
        refine v_icmp_eq C 51 dX4_isAsRead_46 (by decide) (fun c7 => ?_) (fun c7 => ?_)
        · refine v_iinc C (nI (q + 1)) [(1, .int (nI (q + 1))), (0, .ref (a 0))] 0 dX4_isAsRead_51 rfl (nI_inc _) (by decide) rfl ?_
          refine v_goto C 9 dX4_isAsRead_54 (by decide) ?_
          exact ihn_5 (q + 1) (by omega) (by omega) (by rw [arB, har]; simp [c7])
        · refine v_iconst C 0 dX4_isAsRead_49 (by decide) ?_
          exact v_reti C hA dX4_isAsRead_50 rfl (⟨by rw [bI_f]; rw [arB_no c7 nr hin]; decide, rfl⟩)
  exact lp (nr - 0 + 1) 0 (by omega) (by omega) rfl
set_option maxHeartbeats 4000000 in
set_option maxRecDepth 100000 in
theorem m_X4_mostByCourtsStrike {l : Launch} {D : va_G} {cI cB cS : ClassId} (a : Nat → Nat) (x s0 lw nj L nc : Nat) (o dn : Nat → Nat) (tr : Int32) (fa : Int32) (sx : Int32) (un : Int32) (en : Int32) (se : Int32) (tk : Nat → Int32) (od : Nat → Int32) (ve : Nat → Int32) (vd : Nat → Int32) (si : Int32) (ca : Int32) (la : Int32) (sw : Int32) (sk : Int32) (rd : Int32) (ag : Nat → Int32) (de : Nat → Int32) (ta : Nat → Int32) (we : Nat → Int32) (hx : x < 2 ^ nj) (hnj : nj ≤ 5) (hlw : lw < 64) (hp5 : 2 ^ nj ≤ 32) (hs0 : s0 < 2 ^ nj) (hL : L ≤ 5) (hnc : nc ≤ 5) (ho : ∀ p, p < L → od p = nI (o p) ∧ o p < nc) (hde : ∀ c, c < nc → de c = nI (dn c) ∧ dn c < 6) : Mi l yX4_mostByCourtsStrike cX4_mostByCourtsStrike 4 (some .int) 5 119 D cI cB cS [.ref (a 0), .int (nI x)] [oC a tr fa, oT a (nI L) (nI lw) (nI s0) sx un en se, ia (a 31) cI 5 tk, ia (a 32) cI 5 od, ia (a 33) cI 5 ve, ia (a 34) cI 6 vd, oK a si (nI nj) ca la sw sk rd, ia (a 21) cI 5 ag, ia (a 22) cI 5 de, ia (a 23) cI 5 ta, ia (a 24) cI 5 we] (fun r w => ∃ (sx' : Int32) (ve' : Nat → Int32) (vd' : Nat → Int32) (un' : Int32) (en' : Int32) (se' : Int32), r = mbF (fun y => (sitS nj tk ag y lw dn ta we si s0 o L).2.2.2.2.1) x nj ∧ w = [oC a tr fa, oT a (nI L) (nI lw) (nI s0) sx' un' en' se', ia (a 31) cI 5 tk, ia (a 32) cI 5 od, ia (a 33) cI 5 ve', ia (a 34) cI 6 vd', oK a si (nI nj) ca la sw sk rd, ia (a 21) cI 5 ag, ia (a 22) cI 5 de, ia (a 23) cI 5 ta, ia (a 24) cI 5 we]) := by
  refine Mi.of (by decide) (Nat.le_of_ble_eq_true rfl) ?_
  intro zp ze zs zm zb zt zc zz zA hA C hnm
  refine v_lv0 [(0, .ref (a 0)), (1, .int (nI x))] rfl ?_
  refine v_bipush C (-9) dX4_mostByCourtsStrike_0 (by decide) ?_
  refine v_istore_n C [(2, .int (-9)), (0, .ref (a 0)), (1, .int (nI x))] dX4_mostByCourtsStrike_2 (by decide) rfl ?_
  refine v_iconst C 0 dX4_mostByCourtsStrike_3 (by decide) ?_
  refine v_istore_n C [(3, .int 0), (2, .int (-9)), (0, .ref (a 0)), (1, .int (nI x))] dX4_mostByCourtsStrike_4 (by decide) rfl ?_
  have lp : ∀ (n_2 : Nat) (j : Nat) (mo : Int32) (sx1 : Int32) (ve1 : Nat → Int32) (vd1 : Nat → Int32) (un1 : Int32) (en1 : Int32) (se1 : Int32), nj - j < n_2 → (j ≤ nj) → (mbS (fun y => (sitS nj tk ag y lw dn ta we si s0 o L).2.2.2.2.1) x j = mo) → V zp l ze (rmOf 5 119) zs zm [.ref (a 0), .int (nI x)].toArray zb zt zc D (IM zA zs) (QMi zb [.ref (a 0), .int (nI x)].toArray zs D cI cB cS [oC a tr fa, oT a (nI L) (nI lw) (nI s0) sx un en se, ia (a 31) cI 5 tk, ia (a 32) cI 5 od, ia (a 33) cI 5 ve, ia (a 34) cI 6 vd, oK a si (nI nj) ca la sw sk rd, ia (a 21) cI 5 ag, ia (a 22) cI 5 de, ia (a 23) cI 5 ta, ia (a 24) cI 5 we] zz (fun r w => ∃ (sx' : Int32) (ve' : Nat → Int32) (vd' : Nat → Int32) (un' : Int32) (en' : Int32) (se' : Int32), r = mbF (fun y => (sitS nj tk ag y lw dn ta we si s0 o L).2.2.2.2.1) x nj ∧ w = [oC a tr fa, oT a (nI L) (nI lw) (nI s0) sx' un' en' se', ia (a 31) cI 5 tk, ia (a 32) cI 5 od, ia (a 33) cI 5 ve', ia (a 34) cI 6 vd', oK a si (nI nj) ca la sw sk rd, ia (a 21) cI 5 ag, ia (a 22) cI 5 de, ia (a 23) cI 5 ta, ia (a 24) cI 5 we])) 0 0 4 [oC a tr fa, oT a (nI L) (nI lw) (nI s0) sx1 un1 en1 se1, ia (a 31) cI 5 tk, ia (a 32) cI 5 od, ia (a 33) cI 5 ve1, ia (a 34) cI 6 vd1, oK a si (nI nj) ca la sw sk rd, ia (a 21) cI 5 ag, ia (a 22) cI 5 de, ia (a 23) cI 5 ta, ia (a 24) cI 5 we] [(3, .int (nI j)), (2, .int mo), (0, .ref (a 0)), (1, .int (nI x))] 5 [] := by
    intro n_2
    induction n_2 with
    | zero => intro j mo sx1 ve1 vd1 un1 en1 se1 b1; exact absurd b1 (by omega)
    | succ n_2 ihn_2 =>
      intro j mo sx1 ve1 vd1 un1 en1 se1 b1 hj hmo
      refine v_iload_n C dX4_mostByCourtsStrike_5 0 rfl ?_
      refine v_aload_n C dX4_mostByCourtsStrike_6 2 rfl ?_
      refine v_get C f_X4_27 dX4_mostByCourtsStrike_7 0 rfl rfl ?_
      refine v_get C f_X4_151 dX4_mostByCourtsStrike_10 6 rfl rfl ?_
      refine v_icmp_ge C 45 dX4_mostByCourtsStrike_13 (by decide) (fun c3 => ?_) (fun c3 => ?_)
      · have nc3 : nj ≤ j := nI_leD c3 (by omega)
        have hje : j = nj := by omega
        refine v_iload_n C dX4_mostByCourtsStrike_45 1 rfl ?_
        refine v_bipush C (-9) dX4_mostByCourtsStrike_46 (by decide) ?_
        refine v_icmp_ne C 59 dX4_mostByCourtsStrike_48 (by decide) (fun c4 => ?_) (fun c4 => ?_)
        · refine v_iload_n C dX4_mostByCourtsStrike_59 1 rfl ?_
          exact v_reti C hA dX4_mostByCourtsStrike_60 rfl (⟨_, _, _, _, _, _, by rw [mbF]; rw [hje] at hmo; rw [hmo]; rw [if_neg c4], rfl⟩)
        · refine v_aload_n C dX4_mostByCourtsStrike_51 2 rfl ?_
          refine v_iload_n C dX4_mostByCourtsStrike_52 3 rfl ?_
          refine v_callMi C l_X4_157 (m_X4_sentencedIfStruck a x s0 lw nj L nc o dn tr fa sx1 un1 en1 se1 tk od ve1 vd1 si ca la sw sk rd ag de ta we (by omega) (by assumption) (by assumption) (by assumption) (by assumption) (by assumption) (by assumption) (by assumption) (by assumption)) (by decide) dX4_mostByCourtsStrike_53 [0, 1, 2, 3, 4, 5, 6, 7, 8, 9, 10] [] (wr := []) (by decide) rfl rfl (by decide) (by decide) 0 rfl rfl rfl (rest := []) rfl (Nat.le_of_ble_eq_true rfl) (by decide) (fun r7 w5 h6 => ?_)
          obtain ⟨rfl, rfl⟩ := h6
          refine v_ws0 [oC a tr fa, oT a (nI L) (nI lw) (nI s0) (nI x) (nI (sitS nj tk ag x lw dn ta we si s0 o L).2.2.1) ((sitS nj tk ag x lw dn ta we si s0 o L).2.2.2.1) ((sitS nj tk ag x lw dn ta we si s0 o L).2.2.2.2.1), ia (a 31) cI 5 tk, ia (a 32) cI 5 od, ia (a 33) cI 5 ((sitS nj tk ag x lw dn ta we si s0 o L).1), ia (a 34) cI 6 ((sitS nj tk ag x lw dn ta we si s0 o L).2.1), oK a si (nI nj) ca la sw sk rd, ia (a 21) cI 5 ag, ia (a 22) cI 5 de, ia (a 23) cI 5 ta, ia (a 24) cI 5 we] rfl ?_
          refine v_goto C 60 dX4_mostByCourtsStrike_56 (by decide) ?_
          exact v_reti C hA dX4_mostByCourtsStrike_60 rfl (⟨_, _, _, _, _, _, by rw [mbF]; rw [hje] at hmo; rw [hmo]; rw [if_pos c4], rfl⟩)
      · have nc3 : j < nj := nI_ltD c3 (by omega)
        refine v_iload_n C dX4_mostByCourtsStrike_16 3 rfl ?_
        refine v_iload_n C dX4_mostByCourtsStrike_17 0 rfl ?_
        refine v_callSi C l_X4_87 (m_X4_bitOf x j (by omega) (by omega)) (by decide) dX4_mostByCourtsStrike_18 [] rfl rfl (rest := []) rfl (Nat.le_of_ble_eq_true rfl) (by decide) (fun r8 h9 => ?_)
        subst h9
        by_cases c10 : x.testBit j = true
        · refine v_eqi 1 (bI_t c10) ?_
          refine v_if_ne C 39 dX4_mostByCourtsStrike_21 (by decide) (fun _ => ?_) (fun h => absurd h (by decide))
          refine v_iinc C (nI (j + 1)) [(3, .int (nI (j + 1))), (2, .int mo), (0, .ref (a 0)), (1, .int (nI x))] 0 dX4_mostByCourtsStrike_39 rfl (nI_inc _) (by decide) rfl ?_
          refine v_goto C 5 dX4_mostByCourtsStrike_42 (by decide) ?_
          exact ihn_2 (j + 1) mo sx1 ve1 vd1 un1 en1 se1 (by omega) (by omega) (by rw [mbS, if_pos c10]; exact hmo)
        · refine v_eqi 0 (bI_f c10) ?_
          refine v_if_ne C 39 dX4_mostByCourtsStrike_21 (by decide) (fun h => absurd h (by decide)) (fun _ => ?_)
          refine v_iload_n C dX4_mostByCourtsStrike_24 1 rfl ?_
          refine v_aload_n C dX4_mostByCourtsStrike_25 2 rfl ?_
          refine v_iload_n C dX4_mostByCourtsStrike_26 3 rfl ?_
          refine v_iload_n C dX4_mostByCourtsStrike_27 0 rfl ?_
          refine v_iconst C 1 dX4_mostByCourtsStrike_28 (by decide) ?_
          refine v_callSi C l_X4_113 (m_X4_withBit x j 1 (by omega) (by omega)) (by decide) dX4_mostByCourtsStrike_29 [] rfl rfl (rest := [.ref (a 0), .int mo]) rfl (Nat.le_of_ble_eq_true rfl) (by decide) (fun r11 h12 => ?_)
          subst h12
          refine v_eqi (nI (set1 x j)) (rfl) ?_
          refine v_callMi C l_X4_157 (m_X4_sentencedIfStruck a (set1 x j) s0 lw nj L nc o dn tr fa sx1 un1 en1 se1 tk od ve1 vd1 si ca la sw sk rd ag de ta we (by have q := set1_lt nj (by omega) x hx j (by omega); omega) (by assumption) (by assumption) (by assumption) (by assumption) (by assumption) (by assumption) (by assumption) (by assumption)) (by decide) dX4_mostByCourtsStrike_32 [0, 1, 2, 3, 4, 5, 6, 7, 8, 9, 10] [] (wr := []) (by decide) rfl rfl (by decide) (by decide) 0 rfl rfl rfl (rest := [.int mo]) rfl (Nat.le_of_ble_eq_true rfl) (by decide) (fun r15 w13 h14 => ?_)
          obtain ⟨rfl, rfl⟩ := h14
          refine v_ws0 [oC a tr fa, oT a (nI L) (nI lw) (nI s0) (nI (set1 x j)) (nI (sitS nj tk ag (set1 x j) lw dn ta we si s0 o L).2.2.1) ((sitS nj tk ag (set1 x j) lw dn ta we si s0 o L).2.2.2.1) ((sitS nj tk ag (set1 x j) lw dn ta we si s0 o L).2.2.2.2.1), ia (a 31) cI 5 tk, ia (a 32) cI 5 od, ia (a 33) cI 5 ((sitS nj tk ag (set1 x j) lw dn ta we si s0 o L).1), ia (a 34) cI 6 ((sitS nj tk ag (set1 x j) lw dn ta we si s0 o L).2.1), oK a si (nI nj) ca la sw sk rd, ia (a 21) cI 5 ag, ia (a 22) cI 5 de, ia (a 23) cI 5 ta, ia (a 24) cI 5 we] rfl ?_
          refine v_max C lm_X4_247 dX4_mostByCourtsStrike_35 (by decide) (Nat.le_of_ble_eq_true rfl) (by decide) (by decide) ?_
          have hmx : mbS (fun y => (sitS nj tk ag y lw dn ta we si s0 o L).2.2.2.2.1) x (j + 1) = (if mo < (fun y => (sitS nj tk ag y lw dn ta we si s0 o L).2.2.2.2.1) (set1 x j) then (fun y => (sitS nj tk ag y lw dn ta we si s0 o L).2.2.2.2.1) (set1 x j) else mo) := by rw [mbS, hmo, if_neg (by assumption)]
          refine v_eqi (mbS (fun y => (sitS nj tk ag y lw dn ta we si s0 o L).2.2.2.2.1) x (j + 1)) (hmx.symm) ?_
          refine v_istore_n C [(2, .int (mbS (fun y => (sitS nj tk ag y lw dn ta we si s0 o L).2.2.2.2.1) x (j + 1))), (3, .int (nI j)), (0, .ref (a 0)), (1, .int (nI x))] dX4_mostByCourtsStrike_38 (by decide) rfl ?_
          refine v_iinc C (nI (j + 1)) [(3, .int (nI (j + 1))), (2, .int (mbS (fun y => (sitS nj tk ag y lw dn ta we si s0 o L).2.2.2.2.1) x (j + 1))), (0, .ref (a 0)), (1, .int (nI x))] 1 dX4_mostByCourtsStrike_39 rfl (nI_inc _) (by decide) rfl ?_
          refine v_goto C 5 dX4_mostByCourtsStrike_42 (by decide) ?_
          exact ihn_2 (j + 1) (mbS (fun y => (sitS nj tk ag y lw dn ta we si s0 o L).2.2.2.2.1) x (j + 1)) (nI (set1 x j)) ((sitS nj tk ag (set1 x j) lw dn ta we si s0 o L).1) ((sitS nj tk ag (set1 x j) lw dn ta we si s0 o L).2.1) (nI (sitS nj tk ag (set1 x j) lw dn ta we si s0 o L).2.2.1) ((sitS nj tk ag (set1 x j) lw dn ta we si s0 o L).2.2.2.1) ((sitS nj tk ag (set1 x j) lw dn ta we si s0 o L).2.2.2.2.1) (by omega) (by omega) rfl
  exact lp (nj - 0 + 1) 0 (-9) sx ve vd un en se (by omega) (by omega) rfl
set_option maxHeartbeats 4000000 in
set_option maxRecDepth 100000 in
theorem m_X4_fewestSweets {l : Launch} {D : va_G} {cI cB cS : ClassId} (a : Nat → Nat) (c sw st lw nj L nc : Nat) (o dn : Nat → Nat) (tr : Int32) (fa : Int32) (ss : Int32) (un : Int32) (en : Int32) (se : Int32) (tk : Nat → Int32) (od : Nat → Int32) (ve : Nat → Int32) (vd : Nat → Int32) (si : Int32) (ca : Int32) (la : Int32) (sk : Int32) (rd : Int32) (ag : Nat → Int32) (de : Nat → Int32) (ta : Nat → Int32) (we : Nat → Int32) (hc : c < nc) (hsw : sw < 2 ^ nj) (hnj : nj ≤ 5) (hst : st < 32) (hlw : lw < 64) (hp5 : 2 ^ nj ≤ 32) (hL : L ≤ 5) (hnc : nc ≤ 5) (ho : ∀ p, p < L → od p = nI (o p) ∧ o p < nc) (hde : ∀ c, c < nc → de c = nI (dn c) ∧ dn c < 6) : Mi l yX4_fewestSweets cX4_fewestSweets 5 (some .int) 4 98 D cI cB cS [.ref (a 0), .int (nI c)] [oC a tr fa, oT a (nI L) (nI lw) ss (nI st) un en se, ia (a 31) cI 5 tk, ia (a 32) cI 5 od, ia (a 33) cI 5 ve, ia (a 34) cI 6 vd, oK a si (nI nj) ca la (nI sw) sk rd, ia (a 21) cI 5 ag, ia (a 22) cI 5 de, ia (a 23) cI 5 ta, ia (a 24) cI 5 we] (fun r w => ∃ (ss' : Int32) (ve' : Nat → Int32) (vd' : Nat → Int32) (un' : Int32) (en' : Int32) (se' : Int32), r = fsF (fun y => decide ((sitS nj tk ag st lw dn ta we si (sw ||| y) o L).1 c = 1)) sw (2 ^ nj) ∧ w = [oC a tr fa, oT a (nI L) (nI lw) ss' (nI st) un' en' se', ia (a 31) cI 5 tk, ia (a 32) cI 5 od, ia (a 33) cI 5 ve', ia (a 34) cI 6 vd', oK a si (nI nj) ca la (nI sw) sk rd, ia (a 21) cI 5 ag, ia (a 22) cI 5 de, ia (a 23) cI 5 ta, ia (a 24) cI 5 we]) := by
  refine Mi.of (by decide) (Nat.le_of_ble_eq_true rfl) ?_
  intro zp ze zs zm zb zt zc zz zA hA C hnm
  refine v_lv0 [(0, .ref (a 0)), (1, .int (nI c))] rfl ?_
  refine v_bipush C (-9) dX4_fewestSweets_0 (by decide) ?_
  refine v_istore_n C [(2, .int (-9)), (0, .ref (a 0)), (1, .int (nI c))] dX4_fewestSweets_2 (by decide) rfl ?_
  refine v_iconst C 0 dX4_fewestSweets_3 (by decide) ?_
  refine v_istore_n C [(3, .int 0), (2, .int (-9)), (0, .ref (a 0)), (1, .int (nI c))] dX4_fewestSweets_4 (by decide) rfl ?_
  have lp : ∀ (n_2 : Nat) (y : Nat) (fe : Int32) (ss1 : Int32) (ve1 : Nat → Int32) (vd1 : Nat → Int32) (un1 : Int32) (en1 : Int32) (se1 : Int32), 2 ^ nj - y < n_2 → (y ≤ 2 ^ nj) → (fsF (fun y => decide ((sitS nj tk ag st lw dn ta we si (sw ||| y) o L).1 c = 1)) sw y = fe) → V zp l ze (rmOf 4 98) zs zm [.ref (a 0), .int (nI c)].toArray zb zt zc D (IM zA zs) (QMi zb [.ref (a 0), .int (nI c)].toArray zs D cI cB cS [oC a tr fa, oT a (nI L) (nI lw) ss (nI st) un en se, ia (a 31) cI 5 tk, ia (a 32) cI 5 od, ia (a 33) cI 5 ve, ia (a 34) cI 6 vd, oK a si (nI nj) ca la (nI sw) sk rd, ia (a 21) cI 5 ag, ia (a 22) cI 5 de, ia (a 23) cI 5 ta, ia (a 24) cI 5 we] zz (fun r w => ∃ (ss' : Int32) (ve' : Nat → Int32) (vd' : Nat → Int32) (un' : Int32) (en' : Int32) (se' : Int32), r = fsF (fun y => decide ((sitS nj tk ag st lw dn ta we si (sw ||| y) o L).1 c = 1)) sw (2 ^ nj) ∧ w = [oC a tr fa, oT a (nI L) (nI lw) ss' (nI st) un' en' se', ia (a 31) cI 5 tk, ia (a 32) cI 5 od, ia (a 33) cI 5 ve', ia (a 34) cI 6 vd', oK a si (nI nj) ca la (nI sw) sk rd, ia (a 21) cI 5 ag, ia (a 22) cI 5 de, ia (a 23) cI 5 ta, ia (a 24) cI 5 we])) 0 0 5 [oC a tr fa, oT a (nI L) (nI lw) ss1 (nI st) un1 en1 se1, ia (a 31) cI 5 tk, ia (a 32) cI 5 od, ia (a 33) cI 5 ve1, ia (a 34) cI 6 vd1, oK a si (nI nj) ca la (nI sw) sk rd, ia (a 21) cI 5 ag, ia (a 22) cI 5 de, ia (a 23) cI 5 ta, ia (a 24) cI 5 we] [(3, .int (nI y)), (2, .int fe), (0, .ref (a 0)), (1, .int (nI c))] 5 [] := by
    intro n_2
    induction n_2 with
    | zero => intro y fe ss1 ve1 vd1 un1 en1 se1 b1; exact absurd b1 (by omega)
    | succ n_2 ihn_2 =>
      intro y fe ss1 ve1 vd1 un1 en1 se1 b1 hy hfe
      refine v_iload_n C dX4_fewestSweets_5 0 rfl ?_
      refine v_iconst C 1 dX4_fewestSweets_6 (by decide) ?_
      refine v_aload_n C dX4_fewestSweets_7 2 rfl ?_
      refine v_get C f_X4_27 dX4_fewestSweets_8 0 rfl rfl ?_
      refine v_get C f_X4_151 dX4_fewestSweets_11 6 rfl rfl ?_
      refine v_ishl C dX4_fewestSweets_14 ?_
      refine v_eqi (nI (2 ^ nj)) (raw_sh nj (by omega)) ?_
      refine v_icmp_ge C 104 dX4_fewestSweets_15 (by decide) (fun c3 => ?_) (fun c3 => ?_)
      · have nc3 : (2 ^ nj) ≤ y := nI_leD c3 (by omega)
        have hye : y = 2 ^ nj := by omega
        refine v_iload_n C dX4_fewestSweets_104 1 rfl ?_
        exact v_reti C hA dX4_fewestSweets_105 rfl (⟨_, _, _, _, _, _, by rw [← hye, hfe], rfl⟩)
      · have nc3 : y < (2 ^ nj) := nI_ltD c3 (by omega)
        refine v_iload_n C dX4_fewestSweets_18 0 rfl ?_
        refine v_aload_n C dX4_fewestSweets_19 2 rfl ?_
        refine v_get C f_X4_27 dX4_fewestSweets_20 0 rfl rfl ?_
        refine v_get C f_X4_84 dX4_fewestSweets_23 6 rfl rfl ?_
        have hlt : y &&& sw < 64 := Nat.lt_of_le_of_lt Nat.and_le_left (by omega)
        refine v_iand C dX4_fewestSweets_26 ?_
        refine v_eqi (nI (y &&& sw)) (raw_and2 y (by omega) sw (by omega)) ?_
        refine v_if_ne C 34 dX4_fewestSweets_27 (by decide) (fun c4 => ?_) (fun c4 => ?_)
        · have nc4 : (y &&& sw) ≠ 0 := fun q => c4 (by rw [q] <;> rfl)
          refine v_iconst C 0 dX4_fewestSweets_34 (by decide) ?_
          refine v_istore C [(4, .int 0), (3, .int (nI y)), (2, .int fe), (0, .ref (a 0)), (1, .int (nI c))] dX4_fewestSweets_35 (by decide) rfl ?_
          refine v_iload C dX4_fewestSweets_37 0 rfl ?_
          refine v_if_eq C 98 dX4_fewestSweets_39 (by decide) (fun _ => ?_) (fun h => absurd h (by decide))
          refine v_iinc C (nI (y + 1)) [(3, .int (nI (y + 1))), (4, .int 0), (2, .int fe), (0, .ref (a 0)), (1, .int (nI c))] 1 dX4_fewestSweets_98 rfl (nI_inc _) (by decide) rfl ?_
          refine v_goto C 5 dX4_fewestSweets_101 (by decide) ?_
          refine v_loc [0, 2, 3, 4] (lv' := [(3, .int (nI (y + 1))), (2, .int fe), (0, .ref (a 0)), (1, .int (nI c))]) rfl ?_
          exact ihn_2 (y + 1) fe ss1 ve1 vd1 un1 en1 se1 (by omega) (by omega) (by rw [fsF, hfe]; simp [nc4])
        · have nc4 : (y &&& sw) = 0 := nI_eqP c4 (by omega) (by omega)
          refine v_iconst C 1 dX4_fewestSweets_30 (by decide) ?_
          refine v_goto C 35 dX4_fewestSweets_31 (by decide) ?_
          refine v_istore C [(4, .int 1), (3, .int (nI y)), (2, .int fe), (0, .ref (a 0)), (1, .int (nI c))] dX4_fewestSweets_35 (by decide) rfl ?_
          refine v_iload C dX4_fewestSweets_37 0 rfl ?_
          refine v_if_eq C 98 dX4_fewestSweets_39 (by decide) (fun h => absurd h (by decide)) (fun _ => ?_)
          refine v_iload_n C dX4_fewestSweets_42 2 rfl ?_
          refine v_bipush C (-9) dX4_fewestSweets_43 (by decide) ?_
          refine v_icmp_eq C 56 dX4_fewestSweets_45 (by decide) (fun c5 => ?_) (fun c5 => ?_)
          · refine v_aload_n C dX4_fewestSweets_56 3 rfl ?_
            refine v_get C f_X4_36 dX4_fewestSweets_57 0 rfl rfl ?_
            refine v_aload_n C dX4_fewestSweets_60 3 rfl ?_
            refine v_get C f_X4_27 dX4_fewestSweets_61 0 rfl rfl ?_
            refine v_get C f_X4_84 dX4_fewestSweets_64 6 rfl rfl ?_
            refine v_iload_n C dX4_fewestSweets_67 1 rfl ?_
            refine v_ior C dX4_fewestSweets_68 ?_
            refine v_eqi (nI (sw ||| y)) (raw_or2 sw (by omega) y (by omega)) ?_
            refine v_put C p_X4_178 [oC a tr fa, oT a (nI L) (nI lw) (nI (sw ||| y)) (nI st) un1 en1 se1, ia (a 31) cI 5 tk, ia (a 32) cI 5 od, ia (a 33) cI 5 ve1, ia (a 34) cI 6 vd1, oK a si (nI nj) ca la (nI sw) sk rd, ia (a 21) cI 5 ag, ia (a 22) cI 5 de, ia (a 23) cI 5 ta, ia (a 24) cI 5 we] dX4_fewestSweets_69 1 rfl rfl rfl (Nat.le_of_ble_eq_true rfl) rfl ?_
            refine v_aload_n C dX4_fewestSweets_72 3 rfl ?_
            refine v_get C f_X4_36 dX4_fewestSweets_73 0 rfl rfl ?_
            refine v_callMv C l_X4_124 (m_X2_hold a (sw ||| y) st lw nj L nc o dn un1 en1 se1 tk od ve1 vd1 si ca la (nI sw) sk rd ag de ta we (by assumption) (by assumption) (by assumption) (by assumption) (Nat.or_lt_two_pow hsw (by omega)) (by assumption) (by assumption) (by assumption) (by assumption)) (by decide) dX4_fewestSweets_76 [1, 2, 3, 4, 5, 6, 7, 8, 9, 10] [0] (wr := [oC a tr fa]) (by decide) rfl rfl (by decide) (by decide) 1 rfl rfl rfl (rest := []) rfl (Nat.le_of_ble_eq_true rfl) (by decide) (fun w6 h7 => ?_)
            subst h7
            refine v_ws0 [oC a tr fa, oT a (nI L) (nI lw) (nI (sw ||| y)) (nI st) (nI (sitS nj tk ag st lw dn ta we si (sw ||| y) o L).2.2.1) ((sitS nj tk ag st lw dn ta we si (sw ||| y) o L).2.2.2.1) ((sitS nj tk ag st lw dn ta we si (sw ||| y) o L).2.2.2.2.1), ia (a 31) cI 5 tk, ia (a 32) cI 5 od, ia (a 33) cI 5 ((sitS nj tk ag st lw dn ta we si (sw ||| y) o L).1), ia (a 34) cI 6 ((sitS nj tk ag st lw dn ta we si (sw ||| y) o L).2.1), oK a si (nI nj) ca la (nI sw) sk rd, ia (a 21) cI 5 ag, ia (a 22) cI 5 de, ia (a 23) cI 5 ta, ia (a 24) cI 5 we] rfl ?_
            refine v_aload_n C dX4_fewestSweets_79 3 rfl ?_
            refine v_get C f_X4_36 dX4_fewestSweets_80 0 rfl rfl ?_
            refine v_get C f_X4_127 dX4_fewestSweets_83 1 rfl rfl ?_
            refine v_iload_n C dX4_fewestSweets_86 4 rfl ?_
            refine v_ialdN C dX4_fewestSweets_87 4 rfl c rfl (by omega) (by decide) ?_
            refine v_iconst C 1 dX4_fewestSweets_88 (by decide) ?_
            refine v_icmp_ne C 96 dX4_fewestSweets_89 (by decide) (fun c9 => ?_) (fun c9 => ?_)
            · refine v_iload_n C dX4_fewestSweets_96 1 rfl ?_
              refine v_istore_n C [(2, .int (nI y)), (4, .int 1), (3, .int (nI y)), (0, .ref (a 0)), (1, .int (nI c))] dX4_fewestSweets_97 (by decide) rfl ?_
              refine v_iinc C (nI (y + 1)) [(3, .int (nI (y + 1))), (2, .int (nI y)), (4, .int 1), (0, .ref (a 0)), (1, .int (nI c))] 2 dX4_fewestSweets_98 rfl (nI_inc _) (by decide) rfl ?_
              refine v_goto C 5 dX4_fewestSweets_101 (by decide) ?_
              refine v_loc [0, 1, 3, 4] (lv' := [(3, .int (nI (y + 1))), (2, .int (nI y)), (0, .ref (a 0)), (1, .int (nI c))]) rfl ?_
              exact ihn_2 (y + 1) (nI y) (nI (sw ||| y)) ((sitS nj tk ag st lw dn ta we si (sw ||| y) o L).1) ((sitS nj tk ag st lw dn ta we si (sw ||| y) o L).2.1) (nI (sitS nj tk ag st lw dn ta we si (sw ||| y) o L).2.2.1) ((sitS nj tk ag st lw dn ta we si (sw ||| y) o L).2.2.2.1) ((sitS nj tk ag st lw dn ta we si (sw ||| y) o L).2.2.2.2.1) (by omega) (by omega) (by rw [fsF, hfe]; simp [nc4, c5, c9])
            · refine v_iload_n C dX4_fewestSweets_92 2 rfl ?_
              refine v_goto C 97 dX4_fewestSweets_93 (by decide) ?_
              refine v_istore_n C [(2, .int fe), (4, .int 1), (3, .int (nI y)), (0, .ref (a 0)), (1, .int (nI c))] dX4_fewestSweets_97 (by decide) rfl ?_
              refine v_iinc C (nI (y + 1)) [(3, .int (nI (y + 1))), (2, .int fe), (4, .int 1), (0, .ref (a 0)), (1, .int (nI c))] 2 dX4_fewestSweets_98 rfl (nI_inc _) (by decide) rfl ?_
              refine v_goto C 5 dX4_fewestSweets_101 (by decide) ?_
              refine v_loc [0, 1, 3, 4] (lv' := [(3, .int (nI (y + 1))), (2, .int fe), (0, .ref (a 0)), (1, .int (nI c))]) rfl ?_
              exact ihn_2 (y + 1) fe (nI (sw ||| y)) ((sitS nj tk ag st lw dn ta we si (sw ||| y) o L).1) ((sitS nj tk ag st lw dn ta we si (sw ||| y) o L).2.1) (nI (sitS nj tk ag st lw dn ta we si (sw ||| y) o L).2.2.1) ((sitS nj tk ag st lw dn ta we si (sw ||| y) o L).2.2.2.1) ((sitS nj tk ag st lw dn ta we si (sw ||| y) o L).2.2.2.2.1) (by omega) (by omega) (by rw [fsF, hfe]; simp [nc4, c5, c9])
          · refine v_iload_n C dX4_fewestSweets_48 1 rfl ?_
            refine v_iload_n C dX4_fewestSweets_49 2 rfl ?_
            refine v_callSi C l_X4_173 (m_X4_hasFewer (nI y) fe) (by decide) dX4_fewestSweets_50 [] rfl rfl (rest := []) rfl (Nat.le_of_ble_eq_true rfl) (by decide) (fun r10 h11 => ?_)
            subst h11
            by_cases c12 : ¬ bcF fe ≤ bcF (nI y)
            · refine v_eqi 1 (bI_t c12) ?_
              refine v_if_eq C 98 dX4_fewestSweets_53 (by decide) (fun h => absurd h (by decide)) (fun _ => ?_)
              refine v_aload_n C dX4_fewestSweets_56 3 rfl ?_
              refine v_get C f_X4_36 dX4_fewestSweets_57 0 rfl rfl ?_
              refine v_aload_n C dX4_fewestSweets_60 3 rfl ?_
              refine v_get C f_X4_27 dX4_fewestSweets_61 0 rfl rfl ?_
              refine v_get C f_X4_84 dX4_fewestSweets_64 6 rfl rfl ?_
              refine v_iload_n C dX4_fewestSweets_67 1 rfl ?_
              refine v_ior C dX4_fewestSweets_68 ?_
              refine v_eqi (nI (sw ||| y)) (raw_or2 sw (by omega) y (by omega)) ?_
              refine v_put C p_X4_178 [oC a tr fa, oT a (nI L) (nI lw) (nI (sw ||| y)) (nI st) un1 en1 se1, ia (a 31) cI 5 tk, ia (a 32) cI 5 od, ia (a 33) cI 5 ve1, ia (a 34) cI 6 vd1, oK a si (nI nj) ca la (nI sw) sk rd, ia (a 21) cI 5 ag, ia (a 22) cI 5 de, ia (a 23) cI 5 ta, ia (a 24) cI 5 we] dX4_fewestSweets_69 1 rfl rfl rfl (Nat.le_of_ble_eq_true rfl) rfl ?_
              refine v_aload_n C dX4_fewestSweets_72 3 rfl ?_
              refine v_get C f_X4_36 dX4_fewestSweets_73 0 rfl rfl ?_
              refine v_callMv C l_X4_124 (m_X2_hold a (sw ||| y) st lw nj L nc o dn un1 en1 se1 tk od ve1 vd1 si ca la (nI sw) sk rd ag de ta we (by assumption) (by assumption) (by assumption) (by assumption) (Nat.or_lt_two_pow hsw (by omega)) (by assumption) (by assumption) (by assumption) (by assumption)) (by decide) dX4_fewestSweets_76 [1, 2, 3, 4, 5, 6, 7, 8, 9, 10] [0] (wr := [oC a tr fa]) (by decide) rfl rfl (by decide) (by decide) 1 rfl rfl rfl (rest := []) rfl (Nat.le_of_ble_eq_true rfl) (by decide) (fun w13 h14 => ?_)
              subst h14
              refine v_ws0 [oC a tr fa, oT a (nI L) (nI lw) (nI (sw ||| y)) (nI st) (nI (sitS nj tk ag st lw dn ta we si (sw ||| y) o L).2.2.1) ((sitS nj tk ag st lw dn ta we si (sw ||| y) o L).2.2.2.1) ((sitS nj tk ag st lw dn ta we si (sw ||| y) o L).2.2.2.2.1), ia (a 31) cI 5 tk, ia (a 32) cI 5 od, ia (a 33) cI 5 ((sitS nj tk ag st lw dn ta we si (sw ||| y) o L).1), ia (a 34) cI 6 ((sitS nj tk ag st lw dn ta we si (sw ||| y) o L).2.1), oK a si (nI nj) ca la (nI sw) sk rd, ia (a 21) cI 5 ag, ia (a 22) cI 5 de, ia (a 23) cI 5 ta, ia (a 24) cI 5 we] rfl ?_
              refine v_aload_n C dX4_fewestSweets_79 3 rfl ?_
              refine v_get C f_X4_36 dX4_fewestSweets_80 0 rfl rfl ?_
              refine v_get C f_X4_127 dX4_fewestSweets_83 1 rfl rfl ?_
              refine v_iload_n C dX4_fewestSweets_86 4 rfl ?_
              refine v_ialdN C dX4_fewestSweets_87 4 rfl c rfl (by omega) (by decide) ?_
              refine v_iconst C 1 dX4_fewestSweets_88 (by decide) ?_
              refine v_icmp_ne C 96 dX4_fewestSweets_89 (by decide) (fun c16 => ?_) (fun c16 => ?_)
              · refine v_iload_n C dX4_fewestSweets_96 1 rfl ?_
                refine v_istore_n C [(2, .int (nI y)), (4, .int 1), (3, .int (nI y)), (0, .ref (a 0)), (1, .int (nI c))] dX4_fewestSweets_97 (by decide) rfl ?_
                refine v_iinc C (nI (y + 1)) [(3, .int (nI (y + 1))), (2, .int (nI y)), (4, .int 1), (0, .ref (a 0)), (1, .int (nI c))] 2 dX4_fewestSweets_98 rfl (nI_inc _) (by decide) rfl ?_
                refine v_goto C 5 dX4_fewestSweets_101 (by decide) ?_
                refine v_loc [0, 1, 3, 4] (lv' := [(3, .int (nI (y + 1))), (2, .int (nI y)), (0, .ref (a 0)), (1, .int (nI c))]) rfl ?_
                exact ihn_2 (y + 1) (nI y) (nI (sw ||| y)) ((sitS nj tk ag st lw dn ta we si (sw ||| y) o L).1) ((sitS nj tk ag st lw dn ta we si (sw ||| y) o L).2.1) (nI (sitS nj tk ag st lw dn ta we si (sw ||| y) o L).2.2.1) ((sitS nj tk ag st lw dn ta we si (sw ||| y) o L).2.2.2.1) ((sitS nj tk ag st lw dn ta we si (sw ||| y) o L).2.2.2.2.1) (by omega) (by omega) (by rw [fsF, hfe]; simp [nc4, c5, c12, c16])
              · refine v_iload_n C dX4_fewestSweets_92 2 rfl ?_
                refine v_goto C 97 dX4_fewestSweets_93 (by decide) ?_
                refine v_istore_n C [(2, .int fe), (4, .int 1), (3, .int (nI y)), (0, .ref (a 0)), (1, .int (nI c))] dX4_fewestSweets_97 (by decide) rfl ?_
                refine v_iinc C (nI (y + 1)) [(3, .int (nI (y + 1))), (2, .int fe), (4, .int 1), (0, .ref (a 0)), (1, .int (nI c))] 2 dX4_fewestSweets_98 rfl (nI_inc _) (by decide) rfl ?_
                refine v_goto C 5 dX4_fewestSweets_101 (by decide) ?_
                refine v_loc [0, 1, 3, 4] (lv' := [(3, .int (nI (y + 1))), (2, .int fe), (0, .ref (a 0)), (1, .int (nI c))]) rfl ?_
                exact ihn_2 (y + 1) fe (nI (sw ||| y)) ((sitS nj tk ag st lw dn ta we si (sw ||| y) o L).1) ((sitS nj tk ag st lw dn ta we si (sw ||| y) o L).2.1) (nI (sitS nj tk ag st lw dn ta we si (sw ||| y) o L).2.2.1) ((sitS nj tk ag st lw dn ta we si (sw ||| y) o L).2.2.2.1) ((sitS nj tk ag st lw dn ta we si (sw ||| y) o L).2.2.2.2.1) (by omega) (by omega) (by rw [fsF, hfe]; simp [nc4, c5, c12, c16])
            · refine v_eqi 0 (bI_f c12) ?_
              refine v_if_eq C 98 dX4_fewestSweets_53 (by decide) (fun _ => ?_) (fun h => absurd h (by decide))
              refine v_iinc C (nI (y + 1)) [(3, .int (nI (y + 1))), (4, .int 1), (2, .int fe), (0, .ref (a 0)), (1, .int (nI c))] 1 dX4_fewestSweets_98 rfl (nI_inc _) (by decide) rfl ?_
              refine v_goto C 5 dX4_fewestSweets_101 (by decide) ?_
              refine v_loc [0, 2, 3, 4] (lv' := [(3, .int (nI (y + 1))), (2, .int fe), (0, .ref (a 0)), (1, .int (nI c))]) rfl ?_
              exact ihn_2 (y + 1) fe ss1 ve1 vd1 un1 en1 se1 (by omega) (by omega) (by rw [fsF, hfe]; simp [nc4, c5, c12])
  exact lp (2 ^ nj - 0 + 1) 0 (-9) ss ve vd un en se (by omega) (by omega) rfl
set_option maxHeartbeats 4000000 in
set_option maxRecDepth 100000 in
theorem m_X4_findOrderOfHighest {l : Launch} {D : va_G} {cI cB cS : ClassId} (a : Nat → Nat) (s0 st wl nj nc : Nat) (dn : Nat → Nat) (tr : Int32) (fa : Int32) (bo : Nat → Int32) (ln : Int32) (lw : Int32) (ss : Int32) (sx : Int32) (un : Int32) (en : Int32) (se : Int32) (tk : Nat → Int32) (od : Nat → Int32) (ve : Nat → Int32) (vd : Nat → Int32) (si : Int32) (rd : Int32) (kd : Nat → Int32) (ag : Nat → Int32) (de : Nat → Int32) (ta : Nat → Int32) (we : Nat → Int32) (sg : Int32) (hnj : nj ≤ 5) (hst : st < 32) (hlw : wl < 64) (hp5 : 2 ^ nj ≤ 32) (hs0 : s0 < 2 ^ nj) (hnc : nc ≤ 5) (hde : ∀ c, c < nc → de c = nI (dn c) ∧ dn c < 6) (h1 : 1 ≤ nc) (hv : ¬ sg * (fun k => (sitS nj kd ag st wl dn ta we si s0 (prm nc k) nc).2.2.2.2.1) 0 ≤ -1000) : Mi l yX4_findOrderOfHighest cX4_findOrderOfHighest 5 (some .int) 4 98 D cI cB cS [.ref (a 0), .int sg] [oC a tr fa, ia (a 5) cI 5 bo, oT a ln lw ss sx un en se, ia (a 31) cI 5 tk, ia (a 32) cI 5 od, ia (a 33) cI 5 ve, ia (a 34) cI 6 vd, oK a si (nI nj) (nI nc) (nI wl) (nI s0) (nI st) rd, ia (a 20) cI 5 kd, ia (a 21) cI 5 ag, ia (a 22) cI 5 de, ia (a 23) cI 5 ta, ia (a 24) cI 5 we] (fun r w => ∃ (od' : Nat → Int32) (ve' : Nat → Int32) (vd' : Nat → Int32) (un' : Int32) (en' : Int32) (se' : Int32) (bo' : Nat → Int32), r = (fhS (fun k => (sitS nj kd ag st wl dn ta we si s0 (prm nc k) nc).2.2.2.2.1) sg (fct nc)).1 ∧ w = [oC a tr fa, ia (a 5) cI 5 bo', oT a (nI nc) (nI wl) (nI s0) (nI st) un' en' se', ia (a 31) cI 5 kd, ia (a 32) cI 5 od', ia (a 33) cI 5 ve', ia (a 34) cI 6 vd', oK a si (nI nj) (nI nc) (nI wl) (nI s0) (nI st) rd, ia (a 20) cI 5 kd, ia (a 21) cI 5 ag, ia (a 22) cI 5 de, ia (a 23) cI 5 ta, ia (a 24) cI 5 we] ∧ ∀ p, p < nc → bo' p = nI (prm nc (fhS (fun k => (sitS nj kd ag st wl dn ta we si s0 (prm nc k) nc).2.2.2.2.1) sg (fct nc)).2 p)) := by
  refine Mi.of (by decide) (Nat.le_of_ble_eq_true rfl) ?_
  intro zp ze zs zm zb zt zc zz zA hA C hnm
  refine v_lv0 [(0, .ref (a 0)), (1, .int sg)] rfl ?_
  refine v_aload_n C dX4_findOrderOfHighest_0 0 rfl ?_
  refine v_callMv C l_X4_148 (m_X4_prepareByNumbers a nc tr fa si (nI nj) (nI wl) (nI s0) (nI st) rd kd ln lw ss sx un en se tk od (by assumption)) (by decide) dX4_findOrderOfHighest_1 [0, 7, 8, 2, 3, 4] [1, 5, 6, 9, 10, 11, 12] (wr := [ia (a 5) cI 5 bo, ia (a 33) cI 5 ve, ia (a 34) cI 6 vd, ia (a 21) cI 5 ag, ia (a 22) cI 5 de, ia (a 23) cI 5 ta, ia (a 24) cI 5 we]) (by decide) rfl rfl (by decide) (by decide) 0 rfl rfl rfl (rest := []) rfl (Nat.le_of_ble_eq_true rfl) (by decide) (fun w1 h2 => ?_)
  subst h2
  refine v_ws0 [ia (a 5) cI 5 bo, ia (a 33) cI 5 ve, ia (a 34) cI 6 vd, ia (a 21) cI 5 ag, ia (a 22) cI 5 de, ia (a 23) cI 5 ta, ia (a 24) cI 5 we, oC a tr fa, oK a si (nI nj) (nI nc) (nI wl) (nI s0) (nI st) rd, ia (a 20) cI 5 kd, oT a (nI nc) (nI wl) (nI s0) (nI st) (nI s0) en se, ia (a 31) cI 5 kd, ia (a 32) cI 5 (tbF nI od nc)] rfl ?_
  refine v_sipush C (-1000) dX4_findOrderOfHighest_4 (by decide) ?_
  refine v_istore_n C [(2, .int (-1000)), (0, .ref (a 0)), (1, .int sg)] dX4_findOrderOfHighest_7 (by decide) rfl ?_
  refine v_iconst C 1 dX4_findOrderOfHighest_8 (by decide) ?_
  refine v_istore_n C [(3, .int 1), (2, .int (-1000)), (0, .ref (a 0)), (1, .int sg)] dX4_findOrderOfHighest_9 (by decide) rfl ?_
  refine v_iconst C 0 dX4_findOrderOfHighest_10 (by decide) ?_
  refine v_istore C [(4, .int 0), (3, .int 1), (2, .int (-1000)), (0, .ref (a 0)), (1, .int sg)] dX4_findOrderOfHighest_11 (by decide) rfl ?_
  refine v_perm (ws' := [oC a tr fa, ia (a 5) cI 5 bo, oT a (nI nc) (nI wl) (nI s0) (nI st) (nI s0) en se, ia (a 31) cI 5 kd, ia (a 32) cI 5 (tbF nI od nc), ia (a 33) cI 5 ve, ia (a 34) cI 6 vd, oK a si (nI nj) (nI nc) (nI wl) (nI s0) (nI st) rd, ia (a 20) cI 5 kd, ia (a 21) cI 5 ag, ia (a 22) cI 5 de, ia (a 23) cI 5 ta, ia (a 24) cI 5 we]) [7, 0, 10, 11, 12, 1, 2, 8, 9, 3, 4, 5, 6] (by decide) rfl ?_
  have hfc := fct_le nc (by omega)
  have lp : ∀ (n_5 : Nat) (k : Nat) (hi : Int32) (bk : Nat) (od1 : Nat → Int32) (ve1 : Nat → Int32) (vd1 : Nat → Int32) (un1 : Int32) (en1 : Int32) (se1 : Int32) (bo1 : Nat → Int32), fct nc - k < n_5 → (k < fct nc) → (fhS (fun k => (sitS nj kd ag st wl dn ta we si s0 (prm nc k) nc).2.2.2.2.1) sg k = (hi, bk)) → (∀ p, p < nc → od1 p = nI (prm nc k p)) → (0 < k → ∀ p, p < nc → bo1 p = nI (prm nc bk p)) → V zp l ze (rmOf 4 98) zs zm [.ref (a 0), .int sg].toArray zb zt zc D (IM zA zs) (QMi zb [.ref (a 0), .int sg].toArray zs D cI cB cS [oC a tr fa, ia (a 5) cI 5 bo, oT a ln lw ss sx un en se, ia (a 31) cI 5 tk, ia (a 32) cI 5 od, ia (a 33) cI 5 ve, ia (a 34) cI 6 vd, oK a si (nI nj) (nI nc) (nI wl) (nI s0) (nI st) rd, ia (a 20) cI 5 kd, ia (a 21) cI 5 ag, ia (a 22) cI 5 de, ia (a 23) cI 5 ta, ia (a 24) cI 5 we] zz (fun r w => ∃ (od' : Nat → Int32) (ve' : Nat → Int32) (vd' : Nat → Int32) (un' : Int32) (en' : Int32) (se' : Int32) (bo' : Nat → Int32), r = (fhS (fun k => (sitS nj kd ag st wl dn ta we si s0 (prm nc k) nc).2.2.2.2.1) sg (fct nc)).1 ∧ w = [oC a tr fa, ia (a 5) cI 5 bo', oT a (nI nc) (nI wl) (nI s0) (nI st) un' en' se', ia (a 31) cI 5 kd, ia (a 32) cI 5 od', ia (a 33) cI 5 ve', ia (a 34) cI 6 vd', oK a si (nI nj) (nI nc) (nI wl) (nI s0) (nI st) rd, ia (a 20) cI 5 kd, ia (a 21) cI 5 ag, ia (a 22) cI 5 de, ia (a 23) cI 5 ta, ia (a 24) cI 5 we] ∧ ∀ p, p < nc → bo' p = nI (prm nc (fhS (fun k => (sitS nj kd ag st wl dn ta we si s0 (prm nc k) nc).2.2.2.2.1) sg (fct nc)).2 p))) 0 0 5 [oC a tr fa, ia (a 5) cI 5 bo1, oT a (nI nc) (nI wl) (nI s0) (nI st) un1 en1 se1, ia (a 31) cI 5 kd, ia (a 32) cI 5 od1, ia (a 33) cI 5 ve1, ia (a 34) cI 6 vd1, oK a si (nI nj) (nI nc) (nI wl) (nI s0) (nI st) rd, ia (a 20) cI 5 kd, ia (a 21) cI 5 ag, ia (a 22) cI 5 de, ia (a 23) cI 5 ta, ia (a 24) cI 5 we] [(4, .int (nI k)), (3, .int 1), (2, .int hi), (0, .ref (a 0)), (1, .int sg)] 13 [] := by
    intro n_5
    induction n_5 with
    | zero => intro k hi bk od1 ve1 vd1 un1 en1 se1 bo1 b4; exact absurd b4 (by omega)
    | succ n_5 ihn_5 =>
      intro k hi bk od1 ve1 vd1 un1 en1 se1 bo1 b4 hk hfh hod hbo
      refine v_iload_n C dX4_findOrderOfHighest_13 1 rfl ?_
      refine v_if_eq C 85 dX4_findOrderOfHighest_14 (by decide) (fun h => absurd h (by decide)) (fun _ => ?_)
      refine v_iload C dX4_findOrderOfHighest_17 0 rfl ?_
      refine v_bipush C 120 dX4_findOrderOfHighest_19 (by decide) ?_
      refine v_icmp_ge C 85 dX4_findOrderOfHighest_21 (by decide) (fun c6 => ?_) (fun c6 => ?_)
      · have nc6 : 120 ≤ k := nI_leD c6 (by omega)
        exact absurd nc6 (by have := fct_le nc (by omega); omega)
      · have nc6 : k < 120 := nI_ltD c6 (by omega)
        refine v_aload_n C dX4_findOrderOfHighest_24 3 rfl ?_
        refine v_get C f_X4_36 dX4_findOrderOfHighest_25 0 rfl rfl ?_
        refine v_callMv C l_X4_124 (m_X2_hold a s0 st wl nj nc nc (prm nc k) dn un1 en1 se1 kd od1 ve1 vd1 si (nI nc) (nI wl) (nI s0) (nI st) rd ag de ta we (by assumption) (by assumption) (by assumption) (by assumption) (by assumption) hnc (by assumption) (fun p hp => ⟨hod p hp, prm_lt nc (by omega) k hk p hp⟩) (by assumption)) (by decide) dX4_findOrderOfHighest_28 [2, 3, 4, 5, 6, 7, 9, 10, 11, 12] [0, 1, 8] (wr := [oC a tr fa, ia (a 5) cI 5 bo1, ia (a 20) cI 5 kd]) (by decide) rfl rfl (by decide) (by decide) 2 rfl rfl rfl (rest := []) rfl (Nat.le_of_ble_eq_true rfl) (by decide) (fun w7 h8 => ?_)
        subst h8
        refine v_ws0 [oC a tr fa, ia (a 5) cI 5 bo1, ia (a 20) cI 5 kd, oT a (nI nc) (nI wl) (nI s0) (nI st) (nI (sitS nj kd ag st wl dn ta we si s0 (prm nc k) nc).2.2.1) ((sitS nj kd ag st wl dn ta we si s0 (prm nc k) nc).2.2.2.1) ((sitS nj kd ag st wl dn ta we si s0 (prm nc k) nc).2.2.2.2.1), ia (a 31) cI 5 kd, ia (a 32) cI 5 od1, ia (a 33) cI 5 ((sitS nj kd ag st wl dn ta we si s0 (prm nc k) nc).1), ia (a 34) cI 6 ((sitS nj kd ag st wl dn ta we si s0 (prm nc k) nc).2.1), oK a si (nI nj) (nI nc) (nI wl) (nI s0) (nI st) rd, ia (a 21) cI 5 ag, ia (a 22) cI 5 de, ia (a 23) cI 5 ta, ia (a 24) cI 5 we] rfl ?_
        refine v_iload_n C dX4_findOrderOfHighest_31 4 rfl ?_
        refine v_aload_n C dX4_findOrderOfHighest_32 3 rfl ?_
        refine v_get C f_X4_36 dX4_findOrderOfHighest_33 0 rfl rfl ?_
        refine v_get C f_X4_130 dX4_findOrderOfHighest_36 3 rfl rfl ?_
        refine v_imul C dX4_findOrderOfHighest_39 ?_
        refine v_iload_n C dX4_findOrderOfHighest_40 2 rfl ?_
        refine v_icmp_le C 71 dX4_findOrderOfHighest_41 (by decide) (fun c10 => ?_) (fun c10 => ?_)
        · have hF : fhS (fun k => (sitS nj kd ag st wl dn ta we si s0 (prm nc k) nc).2.2.2.2.1) sg (k + 1) = (hi, bk) := by rw [fhS, hfh, if_pos c10]
          have hB : ∀ p, p < nc → bo1 p = nI (prm nc bk p) := hbo (fh_pos hfh c10 hv)
          refine v_aload_n C dX4_findOrderOfHighest_71 3 rfl ?_
          refine v_get C f_X4_36 dX4_findOrderOfHighest_72 0 rfl rfl ?_
          refine v_callMi C l_X4_244 (m_X2_goToNextOrder a nc (prm nc k) (nI wl) (nI s0) (nI st) (nI (sitS nj kd ag st wl dn ta we si s0 (prm nc k) nc).2.2.1) ((sitS nj kd ag st wl dn ta we si s0 (prm nc k) nc).2.2.2.1) ((sitS nj kd ag st wl dn ta we si s0 (prm nc k) nc).2.2.2.2.1) od1 hnc h1 hod (fun i hi => by have := prm_lt nc (by omega) k hk i hi; omega)) (by decide) dX4_findOrderOfHighest_75 [3, 5] [0, 1, 2, 4, 6, 7, 8, 9, 10, 11, 12] (wr := [oC a tr fa, ia (a 5) cI 5 bo1, ia (a 20) cI 5 kd, ia (a 31) cI 5 kd, ia (a 33) cI 5 ((sitS nj kd ag st wl dn ta we si s0 (prm nc k) nc).1), ia (a 34) cI 6 ((sitS nj kd ag st wl dn ta we si s0 (prm nc k) nc).2.1), oK a si (nI nj) (nI nc) (nI wl) (nI s0) (nI st) rd, ia (a 21) cI 5 ag, ia (a 22) cI 5 de, ia (a 23) cI 5 ta, ia (a 24) cI 5 we]) (by decide) rfl rfl (by decide) (by decide) 3 rfl rfl rfl (rest := []) rfl (Nat.le_of_ble_eq_true rfl) (by decide) (fun r13 w11 h12 => ?_)
          rcases h12 with ⟨hn, rfl, rfl⟩ | ⟨g', od2, hn, rfl, rfl, hod2⟩
          · refine v_ws0 [oC a tr fa, ia (a 5) cI 5 bo1, ia (a 20) cI 5 kd, ia (a 31) cI 5 kd, ia (a 33) cI 5 ((sitS nj kd ag st wl dn ta we si s0 (prm nc k) nc).1), ia (a 34) cI 6 ((sitS nj kd ag st wl dn ta we si s0 (prm nc k) nc).2.1), oK a si (nI nj) (nI nc) (nI wl) (nI s0) (nI st) rd, ia (a 21) cI 5 ag, ia (a 22) cI 5 de, ia (a 23) cI 5 ta, ia (a 24) cI 5 we, oT a (nI nc) (nI wl) (nI s0) (nI st) (nI (sitS nj kd ag st wl dn ta we si s0 (prm nc k) nc).2.2.1) ((sitS nj kd ag st wl dn ta we si s0 (prm nc k) nc).2.2.2.1) ((sitS nj kd ag st wl dn ta we si s0 (prm nc k) nc).2.2.2.2.1), ia (a 32) cI 5 od1] rfl ?_
            refine v_istore_n C [(3, .int 0), (4, .int (nI k)), (2, .int hi), (0, .ref (a 0)), (1, .int sg)] dX4_findOrderOfHighest_78 (by decide) rfl ?_
            refine v_iinc C (nI (k + 1)) [(4, .int (nI (k + 1))), (3, .int 0), (2, .int hi), (0, .ref (a 0)), (1, .int sg)] 1 dX4_findOrderOfHighest_79 rfl (nI_inc _) (by decide) rfl ?_
            refine v_goto C 13 dX4_findOrderOfHighest_82 (by decide) ?_
            refine v_iload_n C dX4_findOrderOfHighest_13 1 rfl ?_
            refine v_if_eq C 85 dX4_findOrderOfHighest_14 (by decide) (fun _ => ?_) (fun h => absurd h (by decide))
            refine v_iload_n C dX4_findOrderOfHighest_85 2 rfl ?_
            refine v_perm (ws' := [oC a tr fa, ia (a 5) cI 5 bo1, oT a (nI nc) (nI wl) (nI s0) (nI st) (nI (sitS nj kd ag st wl dn ta we si s0 (prm nc k) nc).2.2.1) ((sitS nj kd ag st wl dn ta we si s0 (prm nc k) nc).2.2.2.1) ((sitS nj kd ag st wl dn ta we si s0 (prm nc k) nc).2.2.2.2.1), ia (a 31) cI 5 kd, ia (a 32) cI 5 od1, ia (a 33) cI 5 ((sitS nj kd ag st wl dn ta we si s0 (prm nc k) nc).1), ia (a 34) cI 6 ((sitS nj kd ag st wl dn ta we si s0 (prm nc k) nc).2.1), oK a si (nI nj) (nI nc) (nI wl) (nI s0) (nI st) rd, ia (a 20) cI 5 kd, ia (a 21) cI 5 ag, ia (a 22) cI 5 de, ia (a 23) cI 5 ta, ia (a 24) cI 5 we]) [0, 1, 11, 3, 12, 4, 5, 6, 2, 7, 8, 9, 10] (by decide) rfl ?_
            exact v_reti C hA dX4_findOrderOfHighest_86 rfl (have hke := prm_none (by omega) h1 hk hn; ⟨_, _, _, _, _, _, _, by rw [← hke, hF], rfl, by rw [← hke, hF]; exact hB⟩)
          · refine v_ws0 [oC a tr fa, ia (a 5) cI 5 bo1, ia (a 20) cI 5 kd, ia (a 31) cI 5 kd, ia (a 33) cI 5 ((sitS nj kd ag st wl dn ta we si s0 (prm nc k) nc).1), ia (a 34) cI 6 ((sitS nj kd ag st wl dn ta we si s0 (prm nc k) nc).2.1), oK a si (nI nj) (nI nc) (nI wl) (nI s0) (nI st) rd, ia (a 21) cI 5 ag, ia (a 22) cI 5 de, ia (a 23) cI 5 ta, ia (a 24) cI 5 we, oT a (nI nc) (nI wl) (nI s0) (nI st) (nI (sitS nj kd ag st wl dn ta we si s0 (prm nc k) nc).2.2.1) ((sitS nj kd ag st wl dn ta we si s0 (prm nc k) nc).2.2.2.1) ((sitS nj kd ag st wl dn ta we si s0 (prm nc k) nc).2.2.2.2.1), ia (a 32) cI 5 od2] rfl ?_
            refine v_istore_n C [(3, .int 1), (4, .int (nI k)), (2, .int hi), (0, .ref (a 0)), (1, .int sg)] dX4_findOrderOfHighest_78 (by decide) rfl ?_
            refine v_iinc C (nI (k + 1)) [(4, .int (nI (k + 1))), (3, .int 1), (2, .int hi), (0, .ref (a 0)), (1, .int sg)] 1 dX4_findOrderOfHighest_79 rfl (nI_inc _) (by decide) rfl ?_
            refine v_goto C 13 dX4_findOrderOfHighest_82 (by decide) ?_
            have hnx := prm_some (by omega) h1 hk hn
            refine v_perm (ws' := [oC a tr fa, ia (a 5) cI 5 bo1, oT a (nI nc) (nI wl) (nI s0) (nI st) (nI (sitS nj kd ag st wl dn ta we si s0 (prm nc k) nc).2.2.1) ((sitS nj kd ag st wl dn ta we si s0 (prm nc k) nc).2.2.2.1) ((sitS nj kd ag st wl dn ta we si s0 (prm nc k) nc).2.2.2.2.1), ia (a 31) cI 5 kd, ia (a 32) cI 5 od2, ia (a 33) cI 5 ((sitS nj kd ag st wl dn ta we si s0 (prm nc k) nc).1), ia (a 34) cI 6 ((sitS nj kd ag st wl dn ta we si s0 (prm nc k) nc).2.1), oK a si (nI nj) (nI nc) (nI wl) (nI s0) (nI st) rd, ia (a 20) cI 5 kd, ia (a 21) cI 5 ag, ia (a 22) cI 5 de, ia (a 23) cI 5 ta, ia (a 24) cI 5 we]) [0, 1, 11, 3, 12, 4, 5, 6, 2, 7, 8, 9, 10] (by decide) rfl ?_
            exact ihn_5 (k + 1) hi bk od2 ((sitS nj kd ag st wl dn ta we si s0 (prm nc k) nc).1) ((sitS nj kd ag st wl dn ta we si s0 (prm nc k) nc).2.1) (nI (sitS nj kd ag st wl dn ta we si s0 (prm nc k) nc).2.2.1) ((sitS nj kd ag st wl dn ta we si s0 (prm nc k) nc).2.2.2.1) ((sitS nj kd ag st wl dn ta we si s0 (prm nc k) nc).2.2.2.2.1) bo1 (by omega) hnx.1 hF (fun p hp => by rw [hod2 p hp, hnx.2 p hp]) (fun _ => hB)
        · have hF : fhS (fun k => (sitS nj kd ag st wl dn ta we si s0 (prm nc k) nc).2.2.2.2.1) sg (k + 1) = (sg * (fun k => (sitS nj kd ag st wl dn ta we si s0 (prm nc k) nc).2.2.2.2.1) k, k) := by rw [fhS, hfh, if_neg c10]
          have hB : ∀ p, p < nc → (va_cpy od1 bo1 0 0 5) p = nI (prm nc k p) := by intro p hp; rw [← hod p hp]; simp [va_cpy, show p < 5 by omega]
          refine v_iload_n C dX4_findOrderOfHighest_44 4 rfl ?_
          refine v_aload_n C dX4_findOrderOfHighest_45 3 rfl ?_
          refine v_get C f_X4_36 dX4_findOrderOfHighest_46 0 rfl rfl ?_
          refine v_get C f_X4_130 dX4_findOrderOfHighest_49 3 rfl rfl ?_
          refine v_imul C dX4_findOrderOfHighest_52 ?_
          refine v_istore_n C [(2, .int (sg * ((sitS nj kd ag st wl dn ta we si s0 (prm nc k) nc).2.2.2.2.1))), (4, .int (nI k)), (3, .int 1), (0, .ref (a 0)), (1, .int sg)] dX4_findOrderOfHighest_53 (by decide) rfl ?_
          refine v_aload_n C dX4_findOrderOfHighest_54 3 rfl ?_
          refine v_get C f_X4_36 dX4_findOrderOfHighest_55 0 rfl rfl ?_
          refine v_get C f_X4_241 dX4_findOrderOfHighest_58 3 rfl rfl ?_
          refine v_iconst C 0 dX4_findOrderOfHighest_61 (by decide) ?_
          refine v_aload_n C dX4_findOrderOfHighest_62 3 rfl ?_
          refine v_get C f_X4_40 dX4_findOrderOfHighest_63 0 rfl rfl ?_
          refine v_iconst C 0 dX4_findOrderOfHighest_66 (by decide) ?_
          refine v_iconst C 5 dX4_findOrderOfHighest_67 (by decide) ?_
          refine v_copy C lc_X4_208 lc_nat lc_sta lc_ini [oC a tr fa, ia (a 5) cI 5 (va_cpy od1 bo1 0 0 5), ia (a 20) cI 5 kd, oT a (nI nc) (nI wl) (nI s0) (nI st) (nI (sitS nj kd ag st wl dn ta we si s0 (prm nc k) nc).2.2.1) ((sitS nj kd ag st wl dn ta we si s0 (prm nc k) nc).2.2.2.1) ((sitS nj kd ag st wl dn ta we si s0 (prm nc k) nc).2.2.2.2.1), ia (a 31) cI 5 kd, ia (a 32) cI 5 od1, ia (a 33) cI 5 ((sitS nj kd ag st wl dn ta we si s0 (prm nc k) nc).1), ia (a 34) cI 6 ((sitS nj kd ag st wl dn ta we si s0 (prm nc k) nc).2.1), oK a si (nI nj) (nI nc) (nI wl) (nI s0) (nI st) rd, ia (a 21) cI 5 ag, ia (a 22) cI 5 de, ia (a 23) cI 5 ta, ia (a 24) cI 5 we] dX4_findOrderOfHighest_68 5 1 rfl rfl 0 0 5 rfl rfl rfl (by omega) (by omega) (by decide) (by decide) (by decide) (by decide) rfl ?_
          refine v_aload_n C dX4_findOrderOfHighest_71 3 rfl ?_
          refine v_get C f_X4_36 dX4_findOrderOfHighest_72 0 rfl rfl ?_
          refine v_callMi C l_X4_244 (m_X2_goToNextOrder a nc (prm nc k) (nI wl) (nI s0) (nI st) (nI (sitS nj kd ag st wl dn ta we si s0 (prm nc k) nc).2.2.1) ((sitS nj kd ag st wl dn ta we si s0 (prm nc k) nc).2.2.2.1) ((sitS nj kd ag st wl dn ta we si s0 (prm nc k) nc).2.2.2.2.1) od1 hnc h1 hod (fun i hi => by have := prm_lt nc (by omega) k hk i hi; omega)) (by decide) dX4_findOrderOfHighest_75 [3, 5] [0, 1, 2, 4, 6, 7, 8, 9, 10, 11, 12] (wr := [oC a tr fa, ia (a 5) cI 5 (va_cpy od1 bo1 0 0 5), ia (a 20) cI 5 kd, ia (a 31) cI 5 kd, ia (a 33) cI 5 ((sitS nj kd ag st wl dn ta we si s0 (prm nc k) nc).1), ia (a 34) cI 6 ((sitS nj kd ag st wl dn ta we si s0 (prm nc k) nc).2.1), oK a si (nI nj) (nI nc) (nI wl) (nI s0) (nI st) rd, ia (a 21) cI 5 ag, ia (a 22) cI 5 de, ia (a 23) cI 5 ta, ia (a 24) cI 5 we]) (by decide) rfl rfl (by decide) (by decide) 3 rfl rfl rfl (rest := []) rfl (Nat.le_of_ble_eq_true rfl) (by decide) (fun r16 w14 h15 => ?_)
          rcases h15 with ⟨hn, rfl, rfl⟩ | ⟨g', od2, hn, rfl, rfl, hod2⟩
          · refine v_ws0 [oC a tr fa, ia (a 5) cI 5 (va_cpy od1 bo1 0 0 5), ia (a 20) cI 5 kd, ia (a 31) cI 5 kd, ia (a 33) cI 5 ((sitS nj kd ag st wl dn ta we si s0 (prm nc k) nc).1), ia (a 34) cI 6 ((sitS nj kd ag st wl dn ta we si s0 (prm nc k) nc).2.1), oK a si (nI nj) (nI nc) (nI wl) (nI s0) (nI st) rd, ia (a 21) cI 5 ag, ia (a 22) cI 5 de, ia (a 23) cI 5 ta, ia (a 24) cI 5 we, oT a (nI nc) (nI wl) (nI s0) (nI st) (nI (sitS nj kd ag st wl dn ta we si s0 (prm nc k) nc).2.2.1) ((sitS nj kd ag st wl dn ta we si s0 (prm nc k) nc).2.2.2.1) ((sitS nj kd ag st wl dn ta we si s0 (prm nc k) nc).2.2.2.2.1), ia (a 32) cI 5 od1] rfl ?_
            refine v_istore_n C [(3, .int 0), (2, .int (sg * ((sitS nj kd ag st wl dn ta we si s0 (prm nc k) nc).2.2.2.2.1))), (4, .int (nI k)), (0, .ref (a 0)), (1, .int sg)] dX4_findOrderOfHighest_78 (by decide) rfl ?_
            refine v_iinc C (nI (k + 1)) [(4, .int (nI (k + 1))), (3, .int 0), (2, .int (sg * ((sitS nj kd ag st wl dn ta we si s0 (prm nc k) nc).2.2.2.2.1))), (0, .ref (a 0)), (1, .int sg)] 2 dX4_findOrderOfHighest_79 rfl (nI_inc _) (by decide) rfl ?_
            refine v_goto C 13 dX4_findOrderOfHighest_82 (by decide) ?_
            refine v_iload_n C dX4_findOrderOfHighest_13 1 rfl ?_
            refine v_if_eq C 85 dX4_findOrderOfHighest_14 (by decide) (fun _ => ?_) (fun h => absurd h (by decide))
            refine v_iload_n C dX4_findOrderOfHighest_85 2 rfl ?_
            refine v_perm (ws' := [oC a tr fa, ia (a 5) cI 5 (va_cpy od1 bo1 0 0 5), oT a (nI nc) (nI wl) (nI s0) (nI st) (nI (sitS nj kd ag st wl dn ta we si s0 (prm nc k) nc).2.2.1) ((sitS nj kd ag st wl dn ta we si s0 (prm nc k) nc).2.2.2.1) ((sitS nj kd ag st wl dn ta we si s0 (prm nc k) nc).2.2.2.2.1), ia (a 31) cI 5 kd, ia (a 32) cI 5 od1, ia (a 33) cI 5 ((sitS nj kd ag st wl dn ta we si s0 (prm nc k) nc).1), ia (a 34) cI 6 ((sitS nj kd ag st wl dn ta we si s0 (prm nc k) nc).2.1), oK a si (nI nj) (nI nc) (nI wl) (nI s0) (nI st) rd, ia (a 20) cI 5 kd, ia (a 21) cI 5 ag, ia (a 22) cI 5 de, ia (a 23) cI 5 ta, ia (a 24) cI 5 we]) [0, 1, 11, 3, 12, 4, 5, 6, 2, 7, 8, 9, 10] (by decide) rfl ?_
            exact v_reti C hA dX4_findOrderOfHighest_86 rfl (have hke := prm_none (by omega) h1 hk hn; ⟨_, _, _, _, _, _, _, by rw [← hke, hF], rfl, by rw [← hke, hF]; exact hB⟩)
          · refine v_ws0 [oC a tr fa, ia (a 5) cI 5 (va_cpy od1 bo1 0 0 5), ia (a 20) cI 5 kd, ia (a 31) cI 5 kd, ia (a 33) cI 5 ((sitS nj kd ag st wl dn ta we si s0 (prm nc k) nc).1), ia (a 34) cI 6 ((sitS nj kd ag st wl dn ta we si s0 (prm nc k) nc).2.1), oK a si (nI nj) (nI nc) (nI wl) (nI s0) (nI st) rd, ia (a 21) cI 5 ag, ia (a 22) cI 5 de, ia (a 23) cI 5 ta, ia (a 24) cI 5 we, oT a (nI nc) (nI wl) (nI s0) (nI st) (nI (sitS nj kd ag st wl dn ta we si s0 (prm nc k) nc).2.2.1) ((sitS nj kd ag st wl dn ta we si s0 (prm nc k) nc).2.2.2.1) ((sitS nj kd ag st wl dn ta we si s0 (prm nc k) nc).2.2.2.2.1), ia (a 32) cI 5 od2] rfl ?_
            refine v_istore_n C [(3, .int 1), (2, .int (sg * ((sitS nj kd ag st wl dn ta we si s0 (prm nc k) nc).2.2.2.2.1))), (4, .int (nI k)), (0, .ref (a 0)), (1, .int sg)] dX4_findOrderOfHighest_78 (by decide) rfl ?_
            refine v_iinc C (nI (k + 1)) [(4, .int (nI (k + 1))), (3, .int 1), (2, .int (sg * ((sitS nj kd ag st wl dn ta we si s0 (prm nc k) nc).2.2.2.2.1))), (0, .ref (a 0)), (1, .int sg)] 2 dX4_findOrderOfHighest_79 rfl (nI_inc _) (by decide) rfl ?_
            refine v_goto C 13 dX4_findOrderOfHighest_82 (by decide) ?_
            have hnx := prm_some (by omega) h1 hk hn
            refine v_perm (ws' := [oC a tr fa, ia (a 5) cI 5 (va_cpy od1 bo1 0 0 5), oT a (nI nc) (nI wl) (nI s0) (nI st) (nI (sitS nj kd ag st wl dn ta we si s0 (prm nc k) nc).2.2.1) ((sitS nj kd ag st wl dn ta we si s0 (prm nc k) nc).2.2.2.1) ((sitS nj kd ag st wl dn ta we si s0 (prm nc k) nc).2.2.2.2.1), ia (a 31) cI 5 kd, ia (a 32) cI 5 od2, ia (a 33) cI 5 ((sitS nj kd ag st wl dn ta we si s0 (prm nc k) nc).1), ia (a 34) cI 6 ((sitS nj kd ag st wl dn ta we si s0 (prm nc k) nc).2.1), oK a si (nI nj) (nI nc) (nI wl) (nI s0) (nI st) rd, ia (a 20) cI 5 kd, ia (a 21) cI 5 ag, ia (a 22) cI 5 de, ia (a 23) cI 5 ta, ia (a 24) cI 5 we]) [0, 1, 11, 3, 12, 4, 5, 6, 2, 7, 8, 9, 10] (by decide) rfl ?_
            exact ihn_5 (k + 1) (sg * ((sitS nj kd ag st wl dn ta we si s0 (prm nc k) nc).2.2.2.2.1)) k od2 ((sitS nj kd ag st wl dn ta we si s0 (prm nc k) nc).1) ((sitS nj kd ag st wl dn ta we si s0 (prm nc k) nc).2.1) (nI (sitS nj kd ag st wl dn ta we si s0 (prm nc k) nc).2.2.1) ((sitS nj kd ag st wl dn ta we si s0 (prm nc k) nc).2.2.2.1) ((sitS nj kd ag st wl dn ta we si s0 (prm nc k) nc).2.2.2.2.1) (va_cpy od1 bo1 0 0 5) (by omega) hnx.1 hF (fun p hp => by rw [hod2 p hp, hnx.2 p hp]) (fun _ => hB)
  exact lp (fct nc - 0 + 1) 0 (-1000) 0 (tbF nI od nc) ve vd (nI s0) en se bo (by omega) (fct_pos nc (by omega)) rfl (fun p hp => by rw [tbF_in hp, prm_0 nc (by omega) p hp]) (fun h => absurd h (by omega))
