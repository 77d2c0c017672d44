/-- MOST, DELAY by a sign: what is asked -/
def hoF (v : Nat → Int32) (nc : Nat) (sg k : Int32) : Int32 := if -1 ≤ k then (if nI nc ≤ 0 then -3 else if k < nI nc then (if 0 ≤ k then nI (prm nc (fhS v sg (fct nc)).2 k.toNatClampNeg) else sg * (fhS v sg (fct nc)).1) else -9) else -1
theorem ix_of {k : Int32} {n : Nat} (hn : n < 2 ^ 31) (h0 : 0 ≤ k) (h : k < nI n) : ∃ j, j < n ∧ k = nI j := by
  rcases pk_ix k hn with q | q | q
  · exact absurd h0 (Int32.not_le.mpr q)
  · exact absurd h (Int32.not_lt.mpr q)
  · exact q
theorem ix_of' {k : Int32} {n : Nat} (hn : n < 2 ^ 31) (h : ¬ k < 0 ∧ ¬ nI n ≤ k) : ∃ j, j < n ∧ k = nI j := by
  rcases pk_ix k hn with q | q | q
  · exact absurd q h.1
  · exact absurd q h.2
  · exact q
/-- the cases that the first cells of an order tell, as a set; none: they tell none, or one twice -/
def odS (f : Nat → Int32) (nc : Nat) : Nat → Option Nat
  | 0 => some 0
  | p + 1 => match odS f nc p with
    | none => none
    | some m => if (¬ f p < 0 ∧ ¬ nI nc ≤ f p) ∧ ¬ m.testBit (f p).toNatClampNeg = true then some (set1 m (f p).toNatClampNeg) else none
theorem odS_none {f : Nat → Int32} {nc p : Nat} (h : odS f nc p = none) : ∀ n, p ≤ n → odS f nc n = none
  | 0, hp => by rw [show p = 0 by omega] at h; exact h
  | n + 1, hp => by
    by_cases e : p = n + 1
    · rw [← e]; exact h
    · rw [odS, odS_none h n (by omega)]
theorem odS_bad {f : Nat → Int32} {nc p m : Nat} (h : odS f nc p = some m) (hb : ¬ ((¬ f p < 0 ∧ ¬ nI nc ≤ f p) ∧ ¬ m.testBit (f p).toNatClampNeg = true)) : odS f nc (p + 1) = none := by
  rw [odS, h]; simp only [if_neg hb]
theorem odS_step {f : Nat → Int32} {nc p m c : Nat} (h : odS f nc p = some m) (hc : f p = nI c) (hn : c < nc) (hn5 : nc ≤ 5) (hb : ¬ m.testBit c = true) : odS f nc (p + 1) = some (set1 m c) := by
  have e : (nI c).toNatClampNeg = c := nI_clamp (by omega)
  rw [odS, h]
  simp only [hc, e]
  rw [if_pos ⟨⟨nI_pos (by omega), nI_ge hn (by omega)⟩, hb⟩]
theorem pc_set : ∀ nc, nc < 6 → ∀ m, m < 2 ^ nc → ∀ c, c < nc → m.testBit c = false → pcN m < nc ∧ pcN (set1 m c) = pcN m + 1 := by decide +kernel
theorem foc_0 {hs la x i n : Int32} {g : Nat} (hg : g ≤ 60) (h : focF hs la (nI g) x i n = 0) : ∃ iN nN, i = nI iN ∧ n = nI nN ∧ iN + nN ≤ g := by
  unfold focF at h
  by_cases h1 : folF hs la x = 0
  · rw [if_pos h1] at h
    by_cases h2 : 0 ≤ n
    · rw [if_pos h2] at h
      by_cases h3 : hcb (nI g) i n = true
      · obtain ⟨a1, a2, a3, a4⟩ := (hcb_iff _ _ _).mp h3
        obtain ⟨iN, hi, rfl⟩ := nI_of a1
        obtain ⟨nN, hn, rfl⟩ := nI_of a2
        have b3 := nI_geP a3 hi
        rw [pk_sub b3] at a4
        have b4 := nI_geP a4 hn
        exact ⟨iN, nN, rfl, rfl, by omega⟩
      · rw [if_neg h3] at h; exact absurd h (by decide)
    · rw [if_neg h2] at h; exact absurd h (by decide)
  · rw [if_neg h1] at h; exact absurd h h1
theorem nc_pos {n : Nat} (h : ¬ nI n ≤ 0) : 1 ≤ n := by
  rcases Nat.eq_zero_or_pos n with q | q
  · rw [q] at h; exact absurd (by decide) h
  · exact q
theorem up_at {f g : Nat → Int32} {p : Nat} {x : Int32} (h : ∀ q, q < p → f q = g q) (hx : g p = x) : ∀ q, q < p + 1 → upd f p x q = g q := by
  intro q hq
  unfold upd
  by_cases e : q = p
  · subst e; simp [hx]
  · simp [e, h q (by omega)]
theorem pc_le : ∀ nc, nc < 6 → ∀ m, m < 2 ^ nc → pcN m ≤ nc := by decide +kernel
set_option maxHeartbeats 4000000 in
set_option maxRecDepth 100000 in
theorem m_X4_byOrderOfHighest {l : Launch} {D : va_G} {cI cB cS : ClassId} (a : Nat → Nat) (s0 st wl nj nc : Nat) (dn : Nat → Nat) (tr : Int32) (fa : Int32) (bo : Nat → Int32) (ln : Int32) (lw : Int32) (ss : Int32) (sx : Int32) (un : Int32) (en : Int32) (se : Int32) (tk : Nat → Int32) (od : Nat → Int32) (ve : Nat → Int32) (vd : Nat → Int32) (si : Int32) (rd : Int32) (kd : Nat → Int32) (ag : Nat → Int32) (de : Nat → Int32) (ta : Nat → Int32) (we : Nat → Int32) (k : Int32) (sg : Int32) (hnj : nj ≤ 5) (hst : st < 32) (hlw : wl < 64) (hp5 : 2 ^ nj ≤ 32) (hs0 : s0 < 2 ^ nj) (hnc : nc ≤ 5) (hde : ∀ c, c < nc → de c = nI (dn c) ∧ dn c < 6) (hv : ¬ sg * (fun k => (sitS nj kd ag st wl dn ta we si s0 (prm nc k) nc).2.2.2.2.1) 0 ≤ -1000) : Mi l yX4_byOrderOfHighest cX4_byOrderOfHighest 4 (some .int) 5 122 D cI cB cS [.ref (a 0), .int k, .int sg] [oC a tr fa, ia (a 5) cI 5 bo, oT a ln lw ss sx un en se, ia (a 31) cI 5 tk, ia (a 32) cI 5 od, ia (a 33) cI 5 ve, ia (a 34) cI 6 vd, oK a si (nI nj) (nI nc) (nI wl) (nI s0) (nI st) rd, ia (a 20) cI 5 kd, ia (a 21) cI 5 ag, ia (a 22) cI 5 de, ia (a 23) cI 5 ta, ia (a 24) cI 5 we] (fun r w => ∃ (ln' : Int32) (lw' : Int32) (ss' : Int32) (sx' : Int32) (un' : Int32) (en' : Int32) (se' : Int32) (tk' : Nat → Int32) (od' : Nat → Int32) (ve' : Nat → Int32) (vd' : Nat → Int32) (bo' : Nat → Int32), r = hoF (fun k => (sitS nj kd ag st wl dn ta we si s0 (prm nc k) nc).2.2.2.2.1) nc sg k ∧ w = [oC a tr fa, ia (a 5) cI 5 bo', oT a ln' lw' ss' sx' un' en' se', ia (a 31) cI 5 tk', ia (a 32) cI 5 od', ia (a 33) cI 5 ve', ia (a 34) cI 6 vd', oK a si (nI nj) (nI nc) (nI wl) (nI s0) (nI st) rd, ia (a 20) cI 5 kd, ia (a 21) cI 5 ag, ia (a 22) cI 5 de, ia (a 23) cI 5 ta, ia (a 24) cI 5 we]) := by
  refine Mi.of (by decide) (Nat.le_of_ble_eq_true rfl) ?_
  intro zp ze zs zm zb zt zc zz zA hA C hnm
  refine v_lv0 [(0, .ref (a 0)), (1, .int k), (2, .int sg)] rfl ?_
  refine v_iload_n C dX4_byOrderOfHighest_0 1 rfl ?_
  refine v_iconst C (-1) dX4_byOrderOfHighest_1 (by decide) ?_
  refine v_icmp_ge C 7 dX4_byOrderOfHighest_2 (by decide) (fun c1 => ?_) (fun c1 => ?_)
  · refine v_aload_n C dX4_byOrderOfHighest_7 0 rfl ?_
    refine v_get C f_X4_27 dX4_byOrderOfHighest_8 0 rfl rfl ?_
    refine v_callRi C l_X4_106 (m_X0_stands a si (nI nj) (nI nc) (nI wl) (nI s0) (nI st) rd) (by decide) dX4_byOrderOfHighest_11 [7] rfl 7 rfl rfl rfl (rest := []) rfl (Nat.le_of_ble_eq_true rfl) (by decide) (fun r2 h3 => ?_)
    subst h3
    by_cases c4 : ¬ (nI nc) ≤ 0
    · refine v_eqi 1 (bI_t c4) ?_
      refine v_if_ne C 20 dX4_byOrderOfHighest_14 (by decide) (fun _ => ?_) (fun h => absurd h (by decide))
      refine v_iload_n C dX4_byOrderOfHighest_20 1 rfl ?_
      refine v_aload_n C dX4_byOrderOfHighest_21 0 rfl ?_
      refine v_get C f_X4_27 dX4_byOrderOfHighest_22 0 rfl rfl ?_
      refine v_get C f_X4_72 dX4_byOrderOfHighest_25 7 rfl rfl ?_
      refine v_icmp_lt C 34 dX4_byOrderOfHighest_28 (by decide) (fun c5 => ?_) (fun c5 => ?_)
      · have h1 : 1 ≤ nc := nc_pos c4
        refine v_aload_n C dX4_byOrderOfHighest_34 0 rfl ?_
        refine v_iload_n C dX4_byOrderOfHighest_35 2 rfl ?_
        refine v_callMi C l_X4_238 (m_X4_findOrderOfHighest a s0 st wl nj nc dn tr fa bo ln lw ss sx un en se tk od ve vd si rd kd ag de ta we sg (by assumption) (by assumption) (by assumption) (by assumption) (by assumption) (by assumption) (by assumption) (by omega) (by assumption)) (by decide) dX4_byOrderOfHighest_36 [0, 1, 2, 3, 4, 5, 6, 7, 8, 9, 10, 11, 12] [] (wr := []) (by decide) rfl rfl (by decide) (by decide) 0 rfl rfl rfl (rest := []) rfl (Nat.le_of_ble_eq_true rfl) (by decide) (fun r8 w6 h7 => ?_)
        obtain ⟨od_9, ve_10, vd_11, un_12, en_13, se_14, bo_15, rfl, rfl, hbo⟩ := h7
        refine v_ws0 [oC a tr fa, ia (a 5) cI 5 bo_15, oT a (nI nc) (nI wl) (nI s0) (nI st) un_12 en_13 se_14, ia (a 31) cI 5 kd, ia (a 32) cI 5 od_9, ia (a 33) cI 5 ve_10, ia (a 34) cI 6 vd_11, oK a si (nI nj) (nI nc) (nI wl) (nI s0) (nI st) rd, ia (a 20) cI 5 kd, ia (a 21) cI 5 ag, ia (a 22) cI 5 de, ia (a 23) cI 5 ta, ia (a 24) cI 5 we] rfl ?_
        refine v_istore_n C [(3, .int ((fhS (fun k => (sitS nj kd ag st wl dn ta we si s0 (prm nc k) nc).2.2.2.2.1) sg (fct nc)).1)), (0, .ref (a 0)), (1, .int k), (2, .int sg)] dX4_byOrderOfHighest_39 (by decide) rfl ?_
        refine v_iload_n C dX4_byOrderOfHighest_40 2 rfl ?_
        refine v_if_ge C 50 dX4_byOrderOfHighest_41 (by decide) (fun c16 => ?_) (fun c16 => ?_)
        · obtain ⟨j, hj, hkj⟩ := ix_of (by omega) c16 c5
          refine v_aload_n C dX4_byOrderOfHighest_50 1 rfl ?_
          refine v_get C f_X4_40 dX4_byOrderOfHighest_51 0 rfl rfl ?_
          refine v_iload_n C dX4_byOrderOfHighest_54 2 rfl ?_
          refine v_ialdN C dX4_byOrderOfHighest_55 1 rfl j hkj (by omega) (by decide) ?_
          exact v_reti C hA dX4_byOrderOfHighest_56 rfl (⟨_, _, _, _, _, _, _, _, _, _, _, _, by simp only [hoF, c1, c4, c5, c16, ↓reduceIte]; rw [hkj, nI_clamp (by omega), hbo j hj], rfl⟩)
        · refine v_iload_n C dX4_byOrderOfHighest_44 3 rfl ?_
          refine v_iload_n C dX4_byOrderOfHighest_45 0 rfl ?_
          refine v_imul C dX4_byOrderOfHighest_46 ?_
          refine v_goto C 56 dX4_byOrderOfHighest_47 (by decide) ?_
          exact v_reti C hA dX4_byOrderOfHighest_56 rfl (⟨_, _, _, _, _, _, _, _, _, _, _, _, by simp only [hoF, c1, c4, c5, c16, ↓reduceIte, not_true_eq_false, not_false_eq_true], rfl⟩)
      · refine v_bipush C (-9) dX4_byOrderOfHighest_31 (by decide) ?_
        exact v_reti C hA dX4_byOrderOfHighest_33 rfl (⟨_, _, _, _, _, _, _, _, _, _, _, _, by simp only [hoF, c1, c4, c5, ↓reduceIte, not_true_eq_false, not_false_eq_true], rfl⟩)
    · refine v_eqi 0 (bI_f c4) ?_
      refine v_if_ne C 20 dX4_byOrderOfHighest_14 (by decide) (fun h => absurd h (by decide)) (fun _ => ?_)
      refine v_bipush C (-3) dX4_byOrderOfHighest_17 (by decide) ?_
      exact v_reti C hA dX4_byOrderOfHighest_19 rfl (⟨_, _, _, _, _, _, _, _, _, _, _, _, by simp only [hoF, c1, Classical.not_not.mp c4, ↓reduceIte, not_true_eq_false, not_false_eq_true], rfl⟩)
  · refine v_iconst C (-1) dX4_byOrderOfHighest_5 (by decide) ?_
    exact v_reti C hA dX4_byOrderOfHighest_6 rfl (⟨_, _, _, _, _, _, _, _, _, _, _, _, by simp only [hoF, c1, ↓reduceIte, not_true_eq_false, not_false_eq_true], rfl⟩)
set_option maxHeartbeats 4000000 in
set_option maxRecDepth 100000 in
theorem m_X4_takeOrder {l : Launch} {D : va_G} {cI cB cS : ClassId} (a : Nat → Nat) (k nc g : Nat) (tr : Int32) (fa : Int32) (si : Int32) (ju : Int32) (la : Int32) (sw : Int32) (sk : Int32) (rd : Int32) (kd : Nat → Int32) (ln : Int32) (lw : Int32) (ss : Int32) (sx : Int32) (un : Int32) (en : Int32) (se : Int32) (tk : Nat → Int32) (od : Nat → Int32) (hs : Int32) (sl : Int32) (sc : Nat → Int32) (x : Int32) (i : Int32) (n : Int32) (hnc : nc ≤ 5) (hg : g ≤ 60) (hp5n : 2 ^ nc ≤ 32) : Mi l yX4_takeOrder cX4_takeOrder 9 (some .int) 2 46 D cI cB cS [.ref (a 0), .ref (a (10 + k)), .int x, .int i, .int n] [oC a tr fa, oK a si ju (nI nc) la sw sk rd, ia (a 20) cI 5 kd, oT a ln lw ss sx un en se, ia (a 31) cI 5 tk, ia (a 32) cI 5 od, oS a k hs sl (nI g), ia (a (14 + k)) cI 60 sc] (fun r w => (¬ focF hs sl (nI g) x i n = 0 ∧ r = (-10) - focF hs sl (nI g) x i n ∧ w = [oC a tr (focF hs sl (nI g) x i n), oK a si ju (nI nc) la sw sk rd, ia (a 20) cI 5 kd, oT a ln lw ss sx un en se, ia (a 31) cI 5 tk, ia (a 32) cI 5 od, oS a k hs sl (nI g), ia (a (14 + k)) cI 60 sc]) ∨ (focF hs sl (nI g) x i n = 0 ∧ nI nc ≤ 0 ∧ r = -3 ∧ w = [oC a tr fa, oK a si ju (nI nc) la sw sk rd, ia (a 20) cI 5 kd, oT a ln lw ss sx un en se, ia (a 31) cI 5 tk, ia (a 32) cI 5 od, oS a k hs sl (nI g), ia (a (14 + k)) cI 60 sc]) ∨ (focF hs sl (nI g) x i n = 0 ∧ ¬ nI nc ≤ 0 ∧ odS (fun q => sc (i.toNatClampNeg + q)) nc n.toNatClampNeg = none ∧ r = -1 ∧ ∃ (ln' : Int32) (lw' : Int32) (ss' : Int32) (sx' : Int32) (un' : Int32) (tk' : Nat → Int32) (od' : Nat → Int32), w = [oC a tr fa, oK a si ju (nI nc) la sw sk rd, ia (a 20) cI 5 kd, oT a ln' lw' ss' sx' un' en se, ia (a 31) cI 5 tk', ia (a 32) cI 5 od', oS a k hs sl (nI g), ia (a (14 + k)) cI 60 sc]) ∨ (focF hs sl (nI g) x i n = 0 ∧ ¬ nI nc ≤ 0 ∧ r = 0 ∧ ∃ (m : Nat) (od' : Nat → Int32), odS (fun q => sc (i.toNatClampNeg + q)) nc n.toNatClampNeg = some m ∧ n.toNatClampNeg ≤ 5 ∧ w = [oC a tr fa, oK a si ju (nI nc) la sw sk rd, ia (a 20) cI 5 kd, oT a (nI n.toNatClampNeg) la sw sk sw en se, ia (a 31) cI 5 kd, ia (a 32) cI 5 od', oS a k hs sl (nI g), ia (a (14 + k)) cI 60 sc] ∧ ∀ p, p < n.toNatClampNeg → od' p = (fun q => sc (i.toNatClampNeg + q)) p)) := by
  refine Mi.of (by decide) (Nat.le_of_ble_eq_true rfl) ?_
  intro zp ze zs zm zb zt zc zz zA hA C hnm
  refine v_lv0 [(0, .ref (a 0)), (1, .ref (a (10 + k))), (2, .int x), (3, .int i), (4, .int n)] rfl ?_
  refine v_aload_n C dX4_takeOrder_0 1 rfl ?_
  refine v_iload_n C dX4_takeOrder_1 2 rfl ?_
  refine v_iload_n C dX4_takeOrder_2 3 rfl ?_
  refine v_iload C dX4_takeOrder_3 4 rfl ?_
  refine v_callRi C l_X4_56 (m_X1_faultOfCells a k hs sl (nI g) x i n) (by decide) dX4_takeOrder_5 [6] rfl 6 rfl rfl rfl (rest := []) rfl (Nat.le_of_ble_eq_true rfl) (by decide) (fun r1 h2 => ?_)
  subst h2
  refine v_istore C [(5, .int (focF hs sl (nI g) x i n)), (0, .ref (a 0)), (1, .ref (a (10 + k))), (2, .int x), (3, .int i), (4, .int n)] dX4_takeOrder_8 (by decide) rfl ?_
  refine v_iload C dX4_takeOrder_10 0 rfl ?_
  refine v_if_eq C 22 dX4_takeOrder_12 (by decide) (fun c3 => ?_) (fun c3 => ?_)
  · obtain ⟨iN, nN, hiN, hnN, hle⟩ := foc_0 hg c3
    have ei : i.toNatClampNeg = iN := by rw [hiN]; exact nI_clamp (by omega)
    have en' : n.toNatClampNeg = nN := by rw [hnN]; exact nI_clamp (by omega)
    refine v_aload_n C dX4_takeOrder_22 1 rfl ?_
    refine v_get C f_X4_27 dX4_takeOrder_23 0 rfl rfl ?_
    refine v_callRi C l_X4_106 (m_X0_stands a si ju (nI nc) la sw sk rd) (by decide) dX4_takeOrder_26 [1] rfl 1 rfl rfl rfl (rest := []) rfl (Nat.le_of_ble_eq_true rfl) (by decide) (fun r4 h5 => ?_)
    subst h5
    by_cases c6 : ¬ (nI nc) ≤ 0
    · refine v_eqi 1 (bI_t c6) ?_
      refine v_if_ne C 35 dX4_takeOrder_29 (by decide) (fun _ => ?_) (fun h => absurd h (by decide))
      refine v_aload_n C dX4_takeOrder_35 1 rfl ?_
      refine v_get C f_X4_36 dX4_takeOrder_36 0 rfl rfl ?_
      refine v_callMv C l_X4_136 (m_X2_prepare a ln lw ss sx un en se tk si ju (nI nc) la sw sk rd kd) (by decide) dX4_takeOrder_39 [3, 4, 1, 2] [0, 5, 6, 7] (wr := [oC a tr fa, ia (a 32) cI 5 od, oS a k hs sl (nI g), ia (a (14 + k)) cI 60 sc]) (by decide) rfl rfl (by decide) (by decide) 3 rfl rfl rfl (rest := []) rfl (Nat.le_of_ble_eq_true rfl) (by decide) (fun w7 h8 => ?_)
      subst h8
      refine v_ws0 [oC a tr fa, ia (a 32) cI 5 od, oS a k hs sl (nI g), ia (a (14 + k)) cI 60 sc, oT a 0 la sw sk sw en se, ia (a 31) cI 5 kd, oK a si ju (nI nc) la sw sk rd, ia (a 20) cI 5 kd] rfl ?_
      refine v_iconst C 0 dX4_takeOrder_42 (by decide) ?_
      refine v_istore C [(6, .int 0), (5, .int (focF hs sl (nI g) x i n)), (0, .ref (a 0)), (1, .ref (a (10 + k))), (2, .int x), (3, .int i), (4, .int n)] dX4_takeOrder_43 (by decide) rfl ?_
      refine v_iconst C 0 dX4_takeOrder_45 (by decide) ?_
      refine v_istore C [(7, .int 0), (6, .int 0), (5, .int (focF hs sl (nI g) x i n)), (0, .ref (a 0)), (1, .ref (a (10 + k))), (2, .int x), (3, .int i), (4, .int n)] dX4_takeOrder_46 (by decide) rfl ?_
      refine v_perm (ws' := [oC a tr fa, oK a si ju (nI nc) la sw sk rd, ia (a 20) cI 5 kd, oT a 0 la sw sk sw en se, ia (a 31) cI 5 kd, ia (a 32) cI 5 od, oS a k hs sl (nI g), ia (a (14 + k)) cI 60 sc]) [0, 6, 7, 4, 5, 1, 2, 3] (by decide) rfl ?_
      refine v_lv0 [(7, .int 0), (6, .int 0), (5, .int (focF hs sl (nI g) x i n)), (0, .ref (a 0)), (1, .ref (a (10 + k))), (2, .int x), (3, .int (nI iN)), (4, .int (nI nN))] (by rw [hiN, hnN]) ?_
      have lp : ∀ (n_11 : Nat) (p : Nat) (m : Nat) (od1 : Nat → Int32), nN - p < n_11 → (p ≤ nN) → (odS (fun q => sc (iN + q)) nc p = some m) → (m < 2 ^ nc) → (pcN m = p) → (∀ q, q < p → od1 q = (fun q => sc (iN + q)) q) → V zp l ze (rmOf 2 46) zs zm [.ref (a 0), .ref (a (10 + k)), .int x, .int i, .int n].toArray zb zt zc D (IM zA zs) (QMi zb [.ref (a 0), .ref (a (10 + k)), .int x, .int i, .int n].toArray zs D cI cB cS [oC a tr fa, oK a si ju (nI nc) la sw sk rd, ia (a 20) cI 5 kd, oT a ln lw ss sx un en se, ia (a 31) cI 5 tk, ia (a 32) cI 5 od, oS a k hs sl (nI g), ia (a (14 + k)) cI 60 sc] zz (fun r w => (¬ focF hs sl (nI g) x i n = 0 ∧ r = (-10) - focF hs sl (nI g) x i n ∧ w = [oC a tr (focF hs sl (nI g) x i n), oK a si ju (nI nc) la sw sk rd, ia (a 20) cI 5 kd, oT a ln lw ss sx un en se, ia (a 31) cI 5 tk, ia (a 32) cI 5 od, oS a k hs sl (nI g), ia (a (14 + k)) cI 60 sc]) ∨ (focF hs sl (nI g) x i n = 0 ∧ nI nc ≤ 0 ∧ r = -3 ∧ w = [oC a tr fa, oK a si ju (nI nc) la sw sk rd, ia (a 20) cI 5 kd, oT a ln lw ss sx un en se, ia (a 31) cI 5 tk, ia (a 32) cI 5 od, oS a k hs sl (nI g), ia (a (14 + k)) cI 60 sc]) ∨ (focF hs sl (nI g) x i n = 0 ∧ ¬ nI nc ≤ 0 ∧ odS (fun q => sc (i.toNatClampNeg + q)) nc n.toNatClampNeg = none ∧ r = -1 ∧ ∃ (ln' : Int32) (lw' : Int32) (ss' : Int32) (sx' : Int32) (un' : Int32) (tk' : Nat → Int32) (od' : Nat → Int32), w = [oC a tr fa, oK a si ju (nI nc) la sw sk rd, ia (a 20) cI 5 kd, oT a ln' lw' ss' sx' un' en se, ia (a 31) cI 5 tk', ia (a 32) cI 5 od', oS a k hs sl (nI g), ia (a (14 + k)) cI 60 sc]) ∨ (focF hs sl (nI g) x i n = 0 ∧ ¬ nI nc ≤ 0 ∧ r = 0 ∧ ∃ (m : Nat) (od' : Nat → Int32), odS (fun q => sc (i.toNatClampNeg + q)) nc n.toNatClampNeg = some m ∧ n.toNatClampNeg ≤ 5 ∧ w = [oC a tr fa, oK a si ju (nI nc) la sw sk rd, ia (a 20) cI 5 kd, oT a (nI n.toNatClampNeg) la sw sk sw en se, ia (a 31) cI 5 kd, ia (a 32) cI 5 od', oS a k hs sl (nI g), ia (a (14 + k)) cI 60 sc] ∧ ∀ p, p < n.toNatClampNeg → od' p = (fun q => sc (i.toNatClampNeg + q)) p))) 0 0 9 [oC a tr fa, oK a si ju (nI nc) la sw sk rd, ia (a 20) cI 5 kd, oT a (nI p) la sw sk sw en se, ia (a 31) cI 5 kd, ia (a 32) cI 5 od1, oS a k hs sl (nI g), ia (a (14 + k)) cI 60 sc] [(7, .int (nI p)), (6, .int (nI m)), (0, .ref (a 0)), (1, .ref (a (10 + k))), (2, .int x), (3, .int (nI iN)), (4, .int (nI nN))] 48 [] := by
        intro n_11
        induction n_11 with
        | zero => intro p m od1 b10; exact absurd b10 (by omega)
        | succ n_11 ihn_11 =>
          intro p m od1 b10 hp hod hm hpc0 hof
          refine v_iload C dX4_takeOrder_48 0 rfl ?_
          refine v_iload C dX4_takeOrder_50 6 rfl ?_
          refine v_icmp_ge C 116 dX4_takeOrder_52 (by decide) (fun c12 => ?_) (fun c12 => ?_)
          · have nc12 : nN ≤ p := nI_leD c12 (by omega)
            have hpe : p = nN := by omega
            refine v_iconst C 0 dX4_takeOrder_116 (by decide) ?_
            exact v_reti C hA dX4_takeOrder_117 rfl (Or.inr (Or.inr (Or.inr ⟨c3, c6, rfl, m, od1, by rw [ei, en', ← hpe]; exact hod, by have := pc_le nc (by omega) m hm; rw [en']; omega, by rw [en', ← hpe], by rw [ei, en', ← hpe]; exact hof⟩)))
          · have nc12 : p < nN := nI_ltD c12 (by omega)
            refine v_aload_n C dX4_takeOrder_55 3 rfl ?_
            refine v_get C f_X4_193 dX4_takeOrder_56 6 rfl rfl ?_
            refine v_iload_n C dX4_takeOrder_59 5 rfl ?_
            refine v_iload C dX4_takeOrder_60 0 rfl ?_
            refine v_iadd C dX4_takeOrder_62 ?_
            refine v_eqi (nI (iN + p)) (nI_add iN p) ?_
            refine v_ialdN C dX4_takeOrder_63 7 rfl (iN + p) rfl (by omega) (by decide) ?_
            refine v_istore C [(8, .int (sc (iN + p))), (7, .int (nI p)), (6, .int (nI m)), (0, .ref (a 0)), (1, .ref (a (10 + k))), (2, .int x), (3, .int (nI iN)), (4, .int (nI nN))] dX4_takeOrder_64 (by decide) rfl ?_
            refine v_aload_n C dX4_takeOrder_66 3 rfl ?_
            refine v_get C f_X4_27 dX4_takeOrder_67 0 rfl rfl ?_
            refine v_iload C dX4_takeOrder_70 0 rfl ?_
            refine v_callRi C l_X4_94 (m_X0_isCase a si ju (nI nc) la sw sk rd (sc (iN + p))) (by decide) dX4_takeOrder_72 [1] rfl 1 rfl rfl rfl (rest := []) rfl (Nat.le_of_ble_eq_true rfl) (by decide) (fun r13 h14 => ?_)
            subst h14
            by_cases c15 : ¬ (sc (iN + p)) < 0 ∧ ¬ (nI nc) ≤ (sc (iN + p))
            · refine v_eqi 1 (bI_t c15) ?_
              refine v_if_eq C 89 dX4_takeOrder_75 (by decide) (fun h => absurd h (by decide)) (fun _ => ?_)
              obtain ⟨c, hcn, hcc⟩ := ix_of' (by omega) c15
              refine v_lv0 [(8, .int (nI c)), (7, .int (nI p)), (6, .int (nI m)), (0, .ref (a 0)), (1, .ref (a (10 + k))), (2, .int x), (3, .int (nI iN)), (4, .int (nI nN))] (by rw [hcc]) ?_
              refine v_iload C dX4_takeOrder_78 2 rfl ?_
              refine v_iload C dX4_takeOrder_80 0 rfl ?_
              refine v_callSi C l_X4_87 (m_X4_bitOf m c (by omega) (by omega)) (by decide) dX4_takeOrder_82 [] rfl rfl (rest := []) rfl (Nat.le_of_ble_eq_true rfl) (by decide) (fun r16 h17 => ?_)
              subst h17
              by_cases c18 : m.testBit c = true
              · refine v_eqi 1 (bI_t c18) ?_
                refine v_iconst C 1 dX4_takeOrder_85 (by decide) ?_
                refine v_icmp_ne C 91 dX4_takeOrder_86 (by decide) (fun h => absurd h (by decide)) (fun _ => ?_)
                refine v_iconst C (-1) dX4_takeOrder_89 (by decide) ?_
                exact v_reti C hA dX4_takeOrder_90 rfl (Or.inr (Or.inr (Or.inl ⟨c3, c6, by rw [ei, en']; exact odS_none (odS_bad hod (fun q => q.2 (by rw [show sc (iN + p) = nI c from hcc, nI_clamp (by omega)]; exact c18))) nN (by omega), rfl, _, _, _, _, _, _, _, rfl⟩)))
              · refine v_eqi 0 (bI_f c18) ?_
                refine v_iconst C 1 dX4_takeOrder_85 (by decide) ?_
                refine v_icmp_ne C 91 dX4_takeOrder_86 (by decide) (fun _ => ?_) (fun h => absurd h (by decide))
                refine v_iload C dX4_takeOrder_91 2 rfl ?_
                refine v_iload C dX4_takeOrder_93 0 rfl ?_
                refine v_iconst C 1 dX4_takeOrder_95 (by decide) ?_
                refine v_callSi C l_X4_113 (m_X4_withBit m c 1 (by omega) (by omega)) (by decide) dX4_takeOrder_96 [] rfl rfl (rest := []) rfl (Nat.le_of_ble_eq_true rfl) (by decide) (fun r19 h20 => ?_)
                subst h20
                refine v_eqi (nI (set1 m c)) (rfl) ?_
                refine v_istore C [(6, .int (nI (set1 m c))), (8, .int (nI c)), (7, .int (nI p)), (0, .ref (a 0)), (1, .ref (a (10 + k))), (2, .int x), (3, .int (nI iN)), (4, .int (nI nN))] dX4_takeOrder_99 (by decide) rfl ?_
                refine v_aload_n C dX4_takeOrder_101 3 rfl ?_
                refine v_get C f_X4_36 dX4_takeOrder_102 0 rfl rfl ?_
                refine v_iload C dX4_takeOrder_105 1 rfl ?_
                have hpc := pc_set nc (by omega) m hm c hcn (by simpa using c18)
                refine v_callMv C l_X4_235 (m_X2_addToOrder a p la sw sk sw en se od1 (nI c) (by omega)) (by decide) dX4_takeOrder_107 [3, 5] [0, 1, 2, 4, 6, 7] (wr := [oC a tr fa, oK a si ju (nI nc) la sw sk rd, ia (a 20) cI 5 kd, ia (a 31) cI 5 kd, oS a k hs sl (nI g), ia (a (14 + k)) cI 60 sc]) (by decide) rfl rfl (by decide) (by decide) 3 rfl rfl rfl (rest := []) rfl (Nat.le_of_ble_eq_true rfl) (by decide) (fun w21 h22 => ?_)
                subst h22
                refine v_ws0 [oC a tr fa, oK a si ju (nI nc) la sw sk rd, ia (a 20) cI 5 kd, ia (a 31) cI 5 kd, oS a k hs sl (nI g), ia (a (14 + k)) cI 60 sc, oT a (nI (p + 1)) la sw sk sw en se, ia (a 32) cI 5 (upd od1 p (nI c))] rfl ?_
                refine v_iinc C (nI (p + 1)) [(7, .int (nI (p + 1))), (6, .int (nI (set1 m c))), (8, .int (nI c)), (0, .ref (a 0)), (1, .ref (a (10 + k))), (2, .int x), (3, .int (nI iN)), (4, .int (nI nN))] 2 dX4_takeOrder_110 rfl (nI_inc _) (by decide) rfl ?_
                refine v_goto C 48 dX4_takeOrder_113 (by decide) ?_
                refine v_perm (ws' := [oC a tr fa, oK a si ju (nI nc) la sw sk rd, ia (a 20) cI 5 kd, oT a (nI (p + 1)) la sw sk sw en se, ia (a 31) cI 5 kd, ia (a 32) cI 5 (upd od1 p (nI c)), oS a k hs sl (nI g), ia (a (14 + k)) cI 60 sc]) [0, 1, 2, 6, 3, 7, 4, 5] (by decide) rfl ?_
                refine v_loc [0, 1, 3, 4, 5, 6, 7] (lv' := [(7, .int (nI (p + 1))), (6, .int (nI (set1 m c))), (0, .ref (a 0)), (1, .ref (a (10 + k))), (2, .int x), (3, .int (nI iN)), (4, .int (nI nN))]) rfl ?_
                exact ihn_11 (p + 1) (set1 m c) (upd od1 p (nI c)) (by omega) (by omega) (odS_step hod hcc hcn (by omega) c18) (set1_lt nc (by omega) m hm c hcn) (by omega) (fun q hq => up_at hof hcc q hq)
            · refine v_eqi 0 (bI_f c15) ?_
              refine v_if_eq C 89 dX4_takeOrder_75 (by decide) (fun _ => ?_) (fun h => absurd h (by decide))
              refine v_iconst C (-1) dX4_takeOrder_89 (by decide) ?_
              exact v_reti C hA dX4_takeOrder_90 rfl (Or.inr (Or.inr (Or.inl ⟨c3, c6, by rw [ei, en']; exact odS_none (odS_bad hod (fun q => c15 q.1)) nN (by omega), rfl, _, _, _, _, _, _, _, rfl⟩)))
      refine v_loc [0, 1, 3, 4, 5, 6, 7] (lv' := [(7, .int 0), (6, .int 0), (0, .ref (a 0)), (1, .ref (a (10 + k))), (2, .int x), (3, .int (nI iN)), (4, .int (nI nN))]) rfl ?_
      exact lp (nN - 0 + 1) 0 0 od (by omega) (by omega) rfl (Nat.two_pow_pos nc) rfl (fun q hq => absurd hq (by omega))
    · refine v_eqi 0 (bI_f c6) ?_
      refine v_if_ne C 35 dX4_takeOrder_29 (by decide) (fun h => absurd h (by decide)) (fun _ => ?_)
      refine v_bipush C (-3) dX4_takeOrder_32 (by decide) ?_
      exact v_reti C hA dX4_takeOrder_34 rfl (Or.inr (Or.inl ⟨c3, Classical.not_not.mp c6, rfl, rfl⟩))
  · refine v_aload_n C dX4_takeOrder_15 1 rfl ?_
    refine v_iload C dX4_takeOrder_16 0 rfl ?_
    refine v_callMi C l_X4_60 (m_X4_faulty a tr fa (focF hs sl (nI g) x i n)) (by decide) dX4_takeOrder_18 [0] [1, 2, 3, 4, 5, 6, 7] (wr := [oK a si ju (nI nc) la sw sk rd, ia (a 20) cI 5 kd, oT a ln lw ss sx un en se, ia (a 31) cI 5 tk, ia (a 32) cI 5 od, oS a k hs sl (nI g), ia (a (14 + k)) cI 60 sc]) (by decide) rfl rfl (by decide) (by decide) 0 rfl rfl rfl (rest := []) rfl (Nat.le_of_ble_eq_true rfl) (by decide) (fun r26 w24 h25 => ?_)
    obtain ⟨rfl, rfl⟩ := h25
    refine v_ws0 [oK a si ju (nI nc) la sw sk rd, ia (a 20) cI 5 kd, oT a ln lw ss sx un en se, ia (a 31) cI 5 tk, ia (a 32) cI 5 od, oS a k hs sl (nI g), ia (a (14 + k)) cI 60 sc, oC a tr (focF hs sl (nI g) x i n)] rfl ?_
    refine v_perm (ws' := [oC a tr (focF hs sl (nI g) x i n), oK a si ju (nI nc) la sw sk rd, ia (a 20) cI 5 kd, oT a ln lw ss sx un en se, ia (a 31) cI 5 tk, ia (a 32) cI 5 od, oS a k hs sl (nI g), ia (a (14 + k)) cI 60 sc]) [7, 0, 1, 2, 3, 4, 5, 6] (by decide) rfl ?_
    exact v_reti C hA dX4_takeOrder_21 rfl (Or.inl ⟨c3, rfl, rfl⟩)
