theorem ix_le {k : Int32} {n : Nat} (hn : n < 2 ^ 30) (h0 : ¬ k < 0) (h : k ≤ nI n) : ∃ j, j ≤ n ∧ k = nI j := by
  obtain ⟨j, hj, rfl⟩ := nI_of h0
  exact ⟨j, nI_leD h hj, rfl⟩
/-- the jurors that the father may strike: his, and what comes then -/
def skS (mb : Nat → Int32) (st : Nat) : Nat → Int32 × Int32
  | 0 => (-9, 0)
  | j + 1 => if st.testBit j = true then skS mb st j else if (skS mb st j).1 = -9 ∨ ¬ (skS mb st j).2 ≤ mb j then (nI j, mb j) else skS mb st j
def skF (nj nc : Nat) (val : Nat → Int32) (st : Nat) (x : Int32) : Int32 := if ¬ x < 0 ∧ x ≤ 1 then (if nI nc ≤ 0 then -3 else if x = 1 then (skS (fun j => mbF val (set1 st j) nj) st nj).1 else if (skS (fun j => mbF val (set1 st j) nj) st nj).1 = -9 then val st else (skS (fun j => mbF val (set1 st j) nj) st nj).2) else -2
theorem hv1 {x : Int32} {n : Nat} (hn : n ≤ 5) (h : 0 ≤ x.toInt ∧ x.toInt ≤ 9 * n) : ¬ 1 * x ≤ -1000 := by
  rw [Int32.one_mul, Int32.le_iff_toInt_le]
  have : (-1000 : Int32).toInt = -1000 := by decide
  rw [this]
  omega
theorem hv2 {x : Int32} {n : Nat} (hn : n ≤ 5) (h : 0 ≤ x.toInt ∧ x.toInt ≤ 9 * n) : ¬ (-1) * x ≤ -1000 := by
  have e : ((-1) * x).toInt = -x.toInt := by
    rw [Int32.toInt_mul]
    have : (-1 : Int32).toInt = -1 := by decide
    rw [this, Int.neg_one_mul]
    apply Int.bmod_eq_of_le <;> omega
  rw [Int32.le_iff_toInt_le, e]
  have : (-1000 : Int32).toInt = -1000 := by decide
  rw [this]
  omega
set_option maxHeartbeats 4000000 in
set_option maxRecDepth 100000 in
theorem m_X4_reading {l : Launch} {D : va_G} {cI cB cS : ClassId} (a : Nat → Nat) (nj nc wl s0 st nr : Nat) (tr : Int32) (fa : Int32) (bo : Nat → Int32) (ln : Int32) (lw : Int32) (ss : Int32) (sx : Int32) (un : Int32) (en : Int32) (se : Int32) (tk : Nat → Int32) (od : Nat → Int32) (ve : Nat → Int32) (vd : Nat → Int32) (si : Int32) (kd : Nat → Int32) (ag : Nat → Int32) (de : Nat → Int32) (ta : Nat → Int32) (we : Nat → Int32) (rC : Nat → Int32) (rH : Nat → Int32) (c : Int32) (h : Int32) (hnj : nj ≤ 5) (hnc : nc ≤ 5) (hlw : wl < 64) (hs0 : s0 < 2 ^ nj) (hst2 : st < 2 ^ nj) (hp5 : 2 ^ nj ≤ 32) (hnr : nr ≤ 8) : Mi l yX4_reading cX4_reading 4 (some .int) 1 21 D cI cB cS [.ref (a 0), .int c, .int h] [oC a tr fa, ia (a 5) cI 5 bo, oT a ln lw ss sx un en se, ia (a 31) cI 5 tk, ia (a 32) cI 5 od, ia (a 33) cI 5 ve, ia (a 34) cI 6 vd, oK a si (nI nj) (nI nc) (nI wl) (nI s0) (nI st) (nI nr), ia (a 20) cI 5 kd, ia (a 21) cI 5 ag, ia (a 22) cI 5 de, ia (a 23) cI 5 ta, ia (a 24) cI 5 we, ia (a 25) cI 8 rC, ia (a 26) cI 8 rH] (fun r w => r = rdF nc nr c h ∧ w = [oC a tr fa, ia (a 5) cI 5 bo, oT a ln lw ss sx un en se, ia (a 31) cI 5 tk, ia (a 32) cI 5 od, ia (a 33) cI 5 ve, ia (a 34) cI 6 vd, oK a si (nI nj) (nI nc) (nI wl) (nI s0) (nI st) (nI (rdN nc nr c h)), ia (a 20) cI 5 kd, ia (a 21) cI 5 ag, ia (a 22) cI 5 de, ia (a 23) cI 5 ta, ia (a 24) cI 5 we, ia (a 25) cI 8 (rdC nc nr rC c h c), ia (a 26) cI 8 (rdC nc nr rH c h h)]) := by
  refine Mi.of (by decide) (Nat.le_of_ble_eq_true rfl) ?_
  intro zp ze zs zm zb zt zc zz zA hA C hnm
  refine v_lv0 [(0, .ref (a 0)), (1, .int c), (2, .int h)] rfl ?_
  refine v_aload_n C dX4_reading_0 0 rfl ?_
  refine v_get C f_X4_27 dX4_reading_1 0 rfl rfl ?_
  refine v_iload_n C dX4_reading_4 1 rfl ?_
  refine v_callRi C l_X4_94 (m_X0_isCase a si (nI nj) (nI nc) (nI wl) (nI s0) (nI st) (nI nr) c) (by decide) dX4_reading_5 [7] rfl 7 rfl rfl rfl (rest := []) rfl (Nat.le_of_ble_eq_true rfl) (by decide) (fun r1 h2 => ?_)
  subst h2
  by_cases c3 : ¬ c < 0 ∧ ¬ (nI nc) ≤ c
  · refine v_eqi 1 (bI_t c3) ?_
    refine v_if_ne C 13 dX4_reading_8 (by decide) (fun _ => ?_) (fun h => absurd h (by decide))
    obtain ⟨cN, hcN, rfl⟩ := ix_of' (by omega) c3
    have zcN : (nI cN).toNatClampNeg = cN := nI_clamp (by omega)
    refine v_iload_n C dX4_reading_13 2 rfl ?_
    refine v_if_lt C 22 dX4_reading_14 (by decide) (fun c4 => ?_) (fun c4 => ?_)
    · refine v_bipush C (-2) dX4_reading_22 (by decide) ?_
      exact v_reti C hA dX4_reading_24 rfl (⟨by first | (simp only [rdF, rdN, rdC, bI, zcN, c3, c4, not_false_eq_true, not_true_eq_false, and_self, and_true, true_and, and_false, false_and, ↓reduceIte]; done) | (simp only [rdF, rdN, rdC, bI, zcN, c3, c4, not_false_eq_true, not_true_eq_false, and_self, and_true, true_and, and_false, false_and, ↓reduceIte]; rfl) | (simp [rdF, rdN, rdC, bI, zcN, c3, c4]; done) | rfl, by first | (simp only [rdF, rdN, rdC, bI, zcN, c3, c4, not_false_eq_true, not_true_eq_false, and_self, and_true, true_and, and_false, false_and, ↓reduceIte]; done) | (simp only [rdF, rdN, rdC, bI, zcN, c3, c4, not_false_eq_true, not_true_eq_false, and_self, and_true, true_and, and_false, false_and, ↓reduceIte]; rfl) | (simp [rdF, rdN, rdC, bI, zcN, c3, c4]; done) | rfl⟩)
    · refine v_iload_n C dX4_reading_17 2 rfl ?_
      refine v_iconst C 2 dX4_reading_18 (by decide) ?_
      refine v_icmp_le C 25 dX4_reading_19 (by decide) (fun c5 => ?_) (fun c5 => ?_)
      · refine v_aload_n C dX4_reading_25 0 rfl ?_
        refine v_get C f_X4_27 dX4_reading_26 0 rfl rfl ?_
        refine v_get C f_X4_160 dX4_reading_29 7 rfl rfl ?_
        refine v_bipush C 8 dX4_reading_32 (by decide) ?_
        refine v_icmp_lt C 40 dX4_reading_34 (by decide) (fun c6 => ?_) (fun c6 => ?_)
        · have nc6 : nr < 8 := nI_ltP c6 (by omega)
          refine v_aload_n C dX4_reading_40 0 rfl ?_
          refine v_get C f_X4_27 dX4_reading_41 0 rfl rfl ?_
          refine v_get C f_X4_160 dX4_reading_44 7 rfl rfl ?_
          refine v_istore_n C [(3, .int (nI nr)), (0, .ref (a 0)), (1, .int (nI cN)), (2, .int h)] dX4_reading_47 (by decide) rfl ?_
          refine v_aload_n C dX4_reading_48 1 rfl ?_
          refine v_get C f_X4_27 dX4_reading_49 0 rfl rfl ?_
          refine v_get C f_X4_163 dX4_reading_52 7 rfl rfl ?_
          refine v_iload_n C dX4_reading_55 0 rfl ?_
          refine v_iload_n C dX4_reading_56 2 rfl ?_
          refine v_iastN C [oC a tr fa, ia (a 5) cI 5 bo, oT a ln lw ss sx un en se, ia (a 31) cI 5 tk, ia (a 32) cI 5 od, ia (a 33) cI 5 ve, ia (a 34) cI 6 vd, oK a si (nI nj) (nI nc) (nI wl) (nI s0) (nI st) (nI nr), ia (a 20) cI 5 kd, ia (a 21) cI 5 ag, ia (a 22) cI 5 de, ia (a 23) cI 5 ta, ia (a 24) cI 5 we, ia (a 25) cI 8 (upd rC nr (nI cN)), ia (a 26) cI 8 rH] dX4_reading_57 13 rfl nr rfl (by omega) (by decide) rfl ?_
          refine v_aload_n C dX4_reading_58 1 rfl ?_
          refine v_get C f_X4_27 dX4_reading_59 0 rfl rfl ?_
          refine v_get C f_X4_166 dX4_reading_62 7 rfl rfl ?_
          refine v_iload_n C dX4_reading_65 0 rfl ?_
          refine v_iload_n C dX4_reading_66 3 rfl ?_
          refine v_iastN C [oC a tr fa, ia (a 5) cI 5 bo, oT a ln lw ss sx un en se, ia (a 31) cI 5 tk, ia (a 32) cI 5 od, ia (a 33) cI 5 ve, ia (a 34) cI 6 vd, oK a si (nI nj) (nI nc) (nI wl) (nI s0) (nI st) (nI nr), ia (a 20) cI 5 kd, ia (a 21) cI 5 ag, ia (a 22) cI 5 de, ia (a 23) cI 5 ta, ia (a 24) cI 5 we, ia (a 25) cI 8 (upd rC nr (nI cN)), ia (a 26) cI 8 (upd rH nr h)] dX4_reading_67 14 rfl nr rfl (by omega) (by decide) rfl ?_
          refine v_aload_n C dX4_reading_68 1 rfl ?_
          refine v_get C f_X4_27 dX4_reading_69 0 rfl rfl ?_
          refine v_iload_n C dX4_reading_72 0 rfl ?_
          refine v_iconst C 1 dX4_reading_73 (by decide) ?_
          refine v_iadd C dX4_reading_74 ?_
          refine v_eqi (nI (nr + 1)) (nI_1 nr) ?_
          refine v_put C p_X4_160 [oC a tr fa, ia (a 5) cI 5 bo, oT a ln lw ss sx un en se, ia (a 31) cI 5 tk, ia (a 32) cI 5 od, ia (a 33) cI 5 ve, ia (a 34) cI 6 vd, oK a si (nI nj) (nI nc) (nI wl) (nI s0) (nI st) (nI (nr + 1)), ia (a 20) cI 5 kd, ia (a 21) cI 5 ag, ia (a 22) cI 5 de, ia (a 23) cI 5 ta, ia (a 24) cI 5 we, ia (a 25) cI 8 (upd rC nr (nI cN)), ia (a 26) cI 8 (upd rH nr h)] dX4_reading_75 7 rfl rfl rfl (Nat.le_of_ble_eq_true rfl) rfl ?_
          refine v_iload_n C dX4_reading_78 0 rfl ?_
          exact v_reti C hA dX4_reading_79 rfl (⟨by first | (simp only [rdF, rdN, rdC, bI, zcN, c3, c4, c5, c6, nc6, Nat.not_le.mpr nc6, not_false_eq_true, not_true_eq_false, and_self, and_true, true_and, and_false, false_and, ↓reduceIte]; done) | (simp only [rdF, rdN, rdC, bI, zcN, c3, c4, c5, c6, nc6, Nat.not_le.mpr nc6, not_false_eq_true, not_true_eq_false, and_self, and_true, true_and, and_false, false_and, ↓reduceIte]; rfl) | (simp [rdF, rdN, rdC, bI, zcN, c3, c4, c5, c6, nc6, Nat.not_le.mpr nc6]; done) | rfl, by first | (simp only [rdF, rdN, rdC, bI, zcN, c3, c4, c5, c6, nc6, Nat.not_le.mpr nc6, not_false_eq_true, not_true_eq_false, and_self, and_true, true_and, and_false, false_and, ↓reduceIte]; done) | (simp only [rdF, rdN, rdC, bI, zcN, c3, c4, c5, c6, nc6, Nat.not_le.mpr nc6, not_false_eq_true, not_true_eq_false, and_self, and_true, true_and, and_false, false_and, ↓reduceIte]; rfl) | (simp [rdF, rdN, rdC, bI, zcN, c3, c4, c5, c6, nc6, Nat.not_le.mpr nc6]; done) | rfl⟩)
        · have nc6 : 8 ≤ nr := nI_geP c6 (by omega)
          refine v_bipush C (-4) dX4_reading_37 (by decide) ?_
          exact v_reti C hA dX4_reading_39 rfl (⟨by first | (simp only [rdF, rdN, rdC, bI, zcN, c3, c4, c5, c6, nc6, Nat.not_lt.mpr nc6, not_false_eq_true, not_true_eq_false, and_self, and_true, true_and, and_false, false_and, ↓reduceIte]; done) | (simp only [rdF, rdN, rdC, bI, zcN, c3, c4, c5, c6, nc6, Nat.not_lt.mpr nc6, not_false_eq_true, not_true_eq_false, and_self, and_true, true_and, and_false, false_and, ↓reduceIte]; rfl) | (simp [rdF, rdN, rdC, bI, zcN, c3, c4, c5, c6, nc6, Nat.not_lt.mpr nc6]; done) | rfl, by first | (simp only [rdF, rdN, rdC, bI, zcN, c3, c4, c5, c6, nc6, Nat.not_lt.mpr nc6, not_false_eq_true, not_true_eq_false, and_self, and_true, true_and, and_false, false_and, ↓reduceIte]; done) | (simp only [rdF, rdN, rdC, bI, zcN, c3, c4, c5, c6, nc6, Nat.not_lt.mpr nc6, not_false_eq_true, not_true_eq_false, and_self, and_true, true_and, and_false, false_and, ↓reduceIte]; rfl) | (simp [rdF, rdN, rdC, bI, zcN, c3, c4, c5, c6, nc6, Nat.not_lt.mpr nc6]; done) | rfl⟩)
      · refine v_bipush C (-2) dX4_reading_22 (by decide) ?_
        exact v_reti C hA dX4_reading_24 rfl (⟨by first | (simp only [rdF, rdN, rdC, bI, zcN, c3, c4, c5, not_false_eq_true, not_true_eq_false, and_self, and_true, true_and, and_false, false_and, ↓reduceIte]; done) | (simp only [rdF, rdN, rdC, bI, zcN, c3, c4, c5, not_false_eq_true, not_true_eq_false, and_self, and_true, true_and, and_false, false_and, ↓reduceIte]; rfl) | (simp [rdF, rdN, rdC, bI, zcN, c3, c4, c5]; done) | rfl, by first | (simp only [rdF, rdN, rdC, bI, zcN, c3, c4, c5, not_false_eq_true, not_true_eq_false, and_self, and_true, true_and, and_false, false_and, ↓reduceIte]; done) | (simp only [rdF, rdN, rdC, bI, zcN, c3, c4, c5, not_false_eq_true, not_true_eq_false, and_self, and_true, true_and, and_false, false_and, ↓reduceIte]; rfl) | (simp [rdF, rdN, rdC, bI, zcN, c3, c4, c5]; done) | rfl⟩)
  · refine v_eqi 0 (bI_f c3) ?_
    refine v_if_ne C 13 dX4_reading_8 (by decide) (fun h => absurd h (by decide)) (fun _ => ?_)
    refine v_iconst C (-1) dX4_reading_11 (by decide) ?_
    exact v_reti C hA dX4_reading_12 rfl (⟨by first | (simp only [rdF, rdN, rdC, bI, c3, not_false_eq_true, not_true_eq_false, and_self, and_true, true_and, and_false, false_and, ↓reduceIte]; done) | (simp only [rdF, rdN, rdC, bI, c3, not_false_eq_true, not_true_eq_false, and_self, and_true, true_and, and_false, false_and, ↓reduceIte]; rfl) | (simp [rdF, rdN, rdC, bI, c3]; done) | rfl, by first | (simp only [rdF, rdN, rdC, bI, c3, not_false_eq_true, not_true_eq_false, and_self, and_true, true_and, and_false, false_and, ↓reduceIte]; done) | (simp only [rdF, rdN, rdC, bI, c3, not_false_eq_true, not_true_eq_false, and_self, and_true, true_and, and_false, false_and, ↓reduceIte]; rfl) | (simp [rdF, rdN, rdC, bI, c3]; done) | rfl⟩)
set_option maxHeartbeats 4000000 in
set_option maxRecDepth 100000 in
theorem m_X4_back {l : Launch} {D : va_G} {cI cB cS : ClassId} (a : Nat → Nat) (nj nc wl s0 st nr : Nat) (tr : Int32) (fa : Int32) (bo : Nat → Int32) (ln : Int32) (lw : Int32) (ss : Int32) (sx : Int32) (un : Int32) (en : Int32) (se : Int32) (tk : Nat → Int32) (od : Nat → Int32) (ve : Nat → Int32) (vd : Nat → Int32) (si : Int32) (kd : Nat → Int32) (ag : Nat → Int32) (de : Nat → Int32) (ta : Nat → Int32) (we : Nat → Int32) (rC : Nat → Int32) (rH : Nat → Int32) (k : Int32) (hnj : nj ≤ 5) (hnc : nc ≤ 5) (hlw : wl < 64) (hs0 : s0 < 2 ^ nj) (hst2 : st < 2 ^ nj) (hp5 : 2 ^ nj ≤ 32) (hnr : nr ≤ 8) : Mi l yX4_back cX4_back 2 (some .int) 0 0 D cI cB cS [.ref (a 0), .int k] [oC a tr fa, ia (a 5) cI 5 bo, oT a ln lw ss sx un en se, ia (a 31) cI 5 tk, ia (a 32) cI 5 od, ia (a 33) cI 5 ve, ia (a 34) cI 6 vd, oK a si (nI nj) (nI nc) (nI wl) (nI s0) (nI st) (nI nr), ia (a 20) cI 5 kd, ia (a 21) cI 5 ag, ia (a 22) cI 5 de, ia (a 23) cI 5 ta, ia (a 24) cI 5 we, ia (a 25) cI 8 rC, ia (a 26) cI 8 rH] (fun r w => r = bkF nr k ∧ w = [oC a tr fa, ia (a 5) cI 5 bo, oT a ln lw ss sx un en se, ia (a 31) cI 5 tk, ia (a 32) cI 5 od, ia (a 33) cI 5 ve, ia (a 34) cI 6 vd, oK a si (nI nj) (nI nc) (nI wl) (nI s0) (nI st) (nI (bkN nr k)), ia (a 20) cI 5 kd, ia (a 21) cI 5 ag, ia (a 22) cI 5 de, ia (a 23) cI 5 ta, ia (a 24) cI 5 we, ia (a 25) cI 8 rC, ia (a 26) cI 8 rH]) := by
  refine Mi.of (by decide) (Nat.le_of_ble_eq_true rfl) ?_
  intro zp ze zs zm zb zt zc zz zA hA C hnm
  refine v_lv0 [(0, .ref (a 0)), (1, .int k)] rfl ?_
  refine v_iload_n C dX4_back_0 1 rfl ?_
  refine v_if_lt C 15 dX4_back_1 (by decide) (fun c1 => ?_) (fun c1 => ?_)
  · refine v_bipush C (-2) dX4_back_15 (by decide) ?_
    exact v_reti C hA dX4_back_17 rfl (⟨by first | (simp only [bkF, bkN, bI, c1, not_false_eq_true, not_true_eq_false, and_self, and_true, true_and, and_false, false_and, ↓reduceIte]; done) | (simp only [bkF, bkN, bI, c1, not_false_eq_true, not_true_eq_false, and_self, and_true, true_and, and_false, false_and, ↓reduceIte]; rfl) | (simp [bkF, bkN, bI, c1]; done) | rfl, by first | (simp only [bkF, bkN, bI, c1, not_false_eq_true, not_true_eq_false, and_self, and_true, true_and, and_false, false_and, ↓reduceIte]; done) | (simp only [bkF, bkN, bI, c1, not_false_eq_true, not_true_eq_false, and_self, and_true, true_and, and_false, false_and, ↓reduceIte]; rfl) | (simp [bkF, bkN, bI, c1]; done) | rfl⟩)
  · refine v_iload_n C dX4_back_4 1 rfl ?_
    refine v_aload_n C dX4_back_5 0 rfl ?_
    refine v_get C f_X4_27 dX4_back_6 0 rfl rfl ?_
    refine v_get C f_X4_160 dX4_back_9 7 rfl rfl ?_
    refine v_icmp_le C 18 dX4_back_12 (by decide) (fun c2 => ?_) (fun c2 => ?_)
    · obtain ⟨kN, hkN, rfl⟩ := ix_le (by omega) c1 c2
      have zkN : (nI kN).toNatClampNeg = kN := nI_clamp (by omega)
      refine v_aload_n C dX4_back_18 0 rfl ?_
      refine v_get C f_X4_27 dX4_back_19 0 rfl rfl ?_
      refine v_dup C dX4_back_22 rfl ?_
      refine v_get C f_X4_160 dX4_back_23 7 rfl rfl ?_
      refine v_iload_n C dX4_back_26 1 rfl ?_
      refine v_isub C dX4_back_27 ?_
      refine v_eqi (nI (nr - kN)) (pk_sub (by omega)) ?_
      refine v_put C p_X4_160 [oC a tr fa, ia (a 5) cI 5 bo, oT a ln lw ss sx un en se, ia (a 31) cI 5 tk, ia (a 32) cI 5 od, ia (a 33) cI 5 ve, ia (a 34) cI 6 vd, oK a si (nI nj) (nI nc) (nI wl) (nI s0) (nI st) (nI (nr - kN)), ia (a 20) cI 5 kd, ia (a 21) cI 5 ag, ia (a 22) cI 5 de, ia (a 23) cI 5 ta, ia (a 24) cI 5 we, ia (a 25) cI 8 rC, ia (a 26) cI 8 rH] dX4_back_28 7 rfl rfl rfl (Nat.le_of_ble_eq_true rfl) rfl ?_
      refine v_aload_n C dX4_back_31 0 rfl ?_
      refine v_get C f_X4_27 dX4_back_32 0 rfl rfl ?_
      refine v_get C f_X4_160 dX4_back_35 7 rfl rfl ?_
      exact v_reti C hA dX4_back_38 rfl (⟨by first | (simp only [bkF, bkN, bI, zkN, c1, c2, not_false_eq_true, not_true_eq_false, and_self, and_true, true_and, and_false, false_and, ↓reduceIte]; done) | (simp only [bkF, bkN, bI, zkN, c1, c2, not_false_eq_true, not_true_eq_false, and_self, and_true, true_and, and_false, false_and, ↓reduceIte]; rfl) | (simp [bkF, bkN, bI, zkN, c1, c2]; done) | rfl, by first | (simp only [bkF, bkN, bI, zkN, c1, c2, not_false_eq_true, not_true_eq_false, and_self, and_true, true_and, and_false, false_and, ↓reduceIte]; done) | (simp only [bkF, bkN, bI, zkN, c1, c2, not_false_eq_true, not_true_eq_false, and_self, and_true, true_and, and_false, false_and, ↓reduceIte]; rfl) | (simp [bkF, bkN, bI, zkN, c1, c2]; done) | rfl⟩)
    · refine v_bipush C (-2) dX4_back_15 (by decide) ?_
      exact v_reti C hA dX4_back_17 rfl (⟨by first | (simp only [bkF, bkN, bI, c1, c2, not_false_eq_true, not_true_eq_false, and_self, and_true, true_and, and_false, false_and, ↓reduceIte]; done) | (simp only [bkF, bkN, bI, c1, c2, not_false_eq_true, not_true_eq_false, and_self, and_true, true_and, and_false, false_and, ↓reduceIte]; rfl) | (simp [bkF, bkN, bI, c1, c2]; done) | rfl, by first | (simp only [bkF, bkN, bI, c1, c2, not_false_eq_true, not_true_eq_false, and_self, and_true, true_and, and_false, false_and, ↓reduceIte]; done) | (simp only [bkF, bkN, bI, c1, c2, not_false_eq_true, not_true_eq_false, and_self, and_true, true_and, and_false, false_and, ↓reduceIte]; rfl) | (simp [bkF, bkN, bI, c1, c2]; done) | rfl⟩)
set_option maxHeartbeats 4000000 in
set_option maxRecDepth 100000 in
theorem m_X4_votes {l : Launch} {D : va_G} {cI cB cS : ClassId} (a : Nat → Nat) (nj nc wl s0 st nr : Nat) (dn : Nat → Nat) (tr : Int32) (fa : Int32) (bo : Nat → Int32) (ln : Int32) (lw : Int32) (ss : Int32) (sx : Int32) (un : Int32) (en : Int32) (se : Int32) (tk : Nat → Int32) (od : Nat → Int32) (ve : Nat → Int32) (vd : Nat → Int32) (si : Int32) (kd : Nat → Int32) (ag : Nat → Int32) (de : Nat → Int32) (ta : Nat → Int32) (we : Nat → Int32) (rC : Nat → Int32) (rH : Nat → Int32) (c : Int32) (mi : Int32) (hnj : nj ≤ 5) (hnc : nc ≤ 5) (hlw : wl < 64) (hs0 : s0 < 2 ^ nj) (hst2 : st < 2 ^ nj) (hp5 : 2 ^ nj ≤ 32) (hnr : nr ≤ 8) (hde : ∀ c, c < nc → de c = nI (dn c) ∧ dn c < 6) : Mi l yX4_votes cX4_votes 3 (some .int) 2 49 D cI cB cS [.ref (a 0), .int c, .int mi] [oC a tr fa, ia (a 5) cI 5 bo, oT a ln lw ss sx un en se, ia (a 31) cI 5 tk, ia (a 32) cI 5 od, ia (a 33) cI 5 ve, ia (a 34) cI 6 vd, oK a si (nI nj) (nI nc) (nI wl) (nI s0) (nI st) (nI nr), ia (a 20) cI 5 kd, ia (a 21) cI 5 ag, ia (a 22) cI 5 de, ia (a 23) cI 5 ta, ia (a 24) cI 5 we, ia (a 25) cI 8 rC, ia (a 26) cI 8 rH] (fun r w => ∃ (ln' : Int32) (lw' : Int32) (ss' : Int32) (sx' : Int32) (un' : Int32) (en' : Int32) (se' : Int32) (tk' : Nat → Int32) (od' : Nat → Int32) (ve' : Nat → Int32) (vd' : Nat → Int32) (bo' : Nat → Int32), r = vtF nj nc kd ag s0 st wl dn c mi ∧ w = [oC a tr fa, ia (a 5) cI 5 bo', oT a ln' lw' ss' sx' un' en' se', ia (a 31) cI 5 tk', ia (a 32) cI 5 od', ia (a 33) cI 5 ve', ia (a 34) cI 6 vd', oK a si (nI nj) (nI nc) (nI wl) (nI s0) (nI st) (nI nr), ia (a 20) cI 5 kd, ia (a 21) cI 5 ag, ia (a 22) cI 5 de, ia (a 23) cI 5 ta, ia (a 24) cI 5 we, ia (a 25) cI 8 rC, ia (a 26) cI 8 rH]) := by
  refine Mi.of (by decide) (Nat.le_of_ble_eq_true rfl) ?_
  intro zp ze zs zm zb zt zc zz zA hA C hnm
  refine v_lv0 [(0, .ref (a 0)), (1, .int c), (2, .int mi)] rfl ?_
  refine v_aload_n C dX4_votes_0 0 rfl ?_
  refine v_get C f_X4_27 dX4_votes_1 0 rfl rfl ?_
  refine v_iload_n C dX4_votes_4 1 rfl ?_
  refine v_callRi C l_X4_94 (m_X0_isCase a si (nI nj) (nI nc) (nI wl) (nI s0) (nI st) (nI nr) c) (by decide) dX4_votes_5 [7] rfl 7 rfl rfl rfl (rest := []) rfl (Nat.le_of_ble_eq_true rfl) (by decide) (fun r1 h2 => ?_)
  subst h2
  by_cases c3 : ¬ c < 0 ∧ ¬ (nI nc) ≤ c
  · refine v_eqi 1 (bI_t c3) ?_
    refine v_if_ne C 13 dX4_votes_8 (by decide) (fun _ => ?_) (fun h => absurd h (by decide))
    obtain ⟨cN, hcN, rfl⟩ := ix_of' (by omega) c3
    have zcN : (nI cN).toNatClampNeg = cN := nI_clamp (by omega)
    refine v_iload_n C dX4_votes_13 2 rfl ?_
    refine v_if_lt C 23 dX4_votes_14 (by decide) (fun c4 => ?_) (fun c4 => ?_)
    · refine v_bipush C (-2) dX4_votes_23 (by decide) ?_
      exact v_reti C hA dX4_votes_25 rfl (⟨_, _, _, _, _, _, _, _, _, _, _, _, by first | (simp only [vtF, bI, zcN, c3, c4, not_false_eq_true, not_true_eq_false, and_self, and_true, true_and, and_false, false_and, ↓reduceIte]; done) | (simp only [vtF, bI, zcN, c3, c4, not_false_eq_true, not_true_eq_false, and_self, and_true, true_and, and_false, false_and, ↓reduceIte]; rfl) | (simp [vtF, bI, zcN, c3, c4]; done) | rfl, by first | (simp only [vtF, bI, zcN, c3, c4, not_false_eq_true, not_true_eq_false, and_self, and_true, true_and, and_false, false_and, ↓reduceIte]; done) | (simp only [vtF, bI, zcN, c3, c4, not_false_eq_true, not_true_eq_false, and_self, and_true, true_and, and_false, false_and, ↓reduceIte]; rfl) | (simp [vtF, bI, zcN, c3, c4]; done) | rfl⟩)
    · refine v_iload_n C dX4_votes_17 2 rfl ?_
      refine v_bipush C 60 dX4_votes_18 (by decide) ?_
      refine v_icmp_le C 26 dX4_votes_20 (by decide) (fun c5 => ?_) (fun c5 => ?_)
      · refine v_aload_n C dX4_votes_26 0 rfl ?_
        refine v_get C f_X4_36 dX4_votes_27 0 rfl rfl ?_
        refine v_callMv C l_X4_136 (m_X2_prepare a ln lw ss sx un en se tk si (nI nj) (nI nc) (nI wl) (nI s0) (nI st) (nI nr) kd) (by decide) dX4_votes_30 [2, 3, 7, 8] [0, 1, 4, 5, 6, 9, 10, 11, 12, 13, 14] (wr := [oC a tr fa, ia (a 5) cI 5 bo, ia (a 32) cI 5 od, ia (a 33) cI 5 ve, ia (a 34) cI 6 vd, ia (a 21) cI 5 ag, ia (a 22) cI 5 de, ia (a 23) cI 5 ta, ia (a 24) cI 5 we, ia (a 25) cI 8 rC, ia (a 26) cI 8 rH]) (by decide) rfl rfl (by decide) (by decide) 2 rfl rfl rfl (rest := []) rfl (Nat.le_of_ble_eq_true rfl) (by decide) (fun w6 h7 => ?_)
        subst h7
        refine v_ws0 [oC a tr fa, ia (a 5) cI 5 bo, ia (a 32) cI 5 od, ia (a 33) cI 5 ve, ia (a 34) cI 6 vd, ia (a 21) cI 5 ag, ia (a 22) cI 5 de, ia (a 23) cI 5 ta, ia (a 24) cI 5 we, ia (a 25) cI 8 rC, ia (a 26) cI 8 rH, oT a 0 (nI wl) (nI s0) (nI st) (nI s0) en se, ia (a 31) cI 5 kd, oK a si (nI nj) (nI nc) (nI wl) (nI s0) (nI st) (nI nr), ia (a 20) cI 5 kd] rfl ?_
        refine v_aload_n C dX4_votes_33 0 rfl ?_
        refine v_get C f_X4_36 dX4_votes_34 0 rfl rfl ?_
        refine v_aload_n C dX4_votes_37 0 rfl ?_
        refine v_get C f_X4_27 dX4_votes_38 0 rfl rfl ?_
        refine v_get C f_X4_97 dX4_votes_41 13 rfl rfl ?_
        refine v_iload_n C dX4_votes_44 1 rfl ?_
        refine v_ialdN C dX4_votes_45 6 rfl cN rfl (by omega) (by decide) ?_
        refine v_eqi (nI (dn cN)) ((hde cN hcN).1) ?_
        refine v_iload_n C dX4_votes_46 2 rfl ?_
        refine v_callMi C l_X4_139 (m_X2_guiltyVotes a (dn cN) s0 st wl nj 0 (nI s0) en se kd si (nI nc) (nI wl) (nI s0) (nI st) (nI nr) ag mi hnj hs0 (by omega) hlw (hde cN hcN).2 hp5) (by decide) dX4_votes_47 [11, 12, 13, 5] [0, 1, 2, 3, 4, 6, 7, 8, 9, 10, 14] (wr := [oC a tr fa, ia (a 5) cI 5 bo, ia (a 32) cI 5 od, ia (a 33) cI 5 ve, ia (a 34) cI 6 vd, ia (a 22) cI 5 de, ia (a 23) cI 5 ta, ia (a 24) cI 5 we, ia (a 25) cI 8 rC, ia (a 26) cI 8 rH, ia (a 20) cI 5 kd]) (by decide) rfl rfl (by decide) (by decide) 11 rfl rfl rfl (rest := []) rfl (Nat.le_of_ble_eq_true rfl) (by decide) (fun r11 w9 h10 => ?_)
        obtain ⟨rfl, rfl⟩ := h10
        refine v_ws0 [oC a tr fa, ia (a 5) cI 5 bo, ia (a 32) cI 5 od, ia (a 33) cI 5 ve, ia (a 34) cI 6 vd, ia (a 22) cI 5 de, ia (a 23) cI 5 ta, ia (a 24) cI 5 we, ia (a 25) cI 8 rC, ia (a 26) cI 8 rH, ia (a 20) cI 5 kd, oT a 0 (nI wl) (nI s0) (nI st) (nI (unF nj kd s0 st)) en se, ia (a 31) cI 5 kd, oK a si (nI nj) (nI nc) (nI wl) (nI s0) (nI st) (nI nr), ia (a 21) cI 5 ag] rfl ?_
        refine v_perm (ws' := [oC a tr fa, ia (a 5) cI 5 bo, oT a 0 (nI wl) (nI s0) (nI st) (nI (unF nj kd s0 st)) en se, ia (a 31) cI 5 kd, ia (a 32) cI 5 od, ia (a 33) cI 5 ve, ia (a 34) cI 6 vd, oK a si (nI nj) (nI nc) (nI wl) (nI s0) (nI st) (nI nr), ia (a 20) cI 5 kd, ia (a 21) cI 5 ag, ia (a 22) cI 5 de, ia (a 23) cI 5 ta, ia (a 24) cI 5 we, ia (a 25) cI 8 rC, ia (a 26) cI 8 rH]) [0, 1, 11, 12, 2, 3, 4, 13, 10, 14, 5, 6, 7, 8, 9] (by decide) rfl ?_
        exact v_reti C hA dX4_votes_50 rfl (⟨_, _, _, _, _, _, _, _, _, _, _, _, by first | (simp only [vtF, bI, zcN, c3, c4, c5, not_false_eq_true, not_true_eq_false, and_self, and_true, true_and, and_false, false_and, ↓reduceIte]; done) | (simp only [vtF, bI, zcN, c3, c4, c5, not_false_eq_true, not_true_eq_false, and_self, and_true, true_and, and_false, false_and, ↓reduceIte]; rfl) | (simp [vtF, bI, zcN, c3, c4, c5]; done) | rfl, by first | (simp only [vtF, bI, zcN, c3, c4, c5, not_false_eq_true, not_true_eq_false, and_self, and_true, true_and, and_false, false_and, ↓reduceIte]; done) | (simp only [vtF, bI, zcN, c3, c4, c5, not_false_eq_true, not_true_eq_false, and_self, and_true, true_and, and_false, false_and, ↓reduceIte]; rfl) | (simp [vtF, bI, zcN, c3, c4, c5]; done) | rfl⟩)
      · refine v_bipush C (-2) dX4_votes_23 (by decide) ?_
        exact v_reti C hA dX4_votes_25 rfl (⟨_, _, _, _, _, _, _, _, _, _, _, _, by first | (simp only [vtF, bI, zcN, c3, c4, c5, not_false_eq_true, not_true_eq_false, and_self, and_true, true_and, and_false, false_and, ↓reduceIte]; done) | (simp only [vtF, bI, zcN, c3, c4, c5, not_false_eq_true, not_true_eq_false, and_self, and_true, true_and, and_false, false_and, ↓reduceIte]; rfl) | (simp [vtF, bI, zcN, c3, c4, c5]; done) | rfl, by first | (simp only [vtF, bI, zcN, c3, c4, c5, not_false_eq_true, not_true_eq_false, and_self, and_true, true_and, and_false, false_and, ↓reduceIte]; done) | (simp only [vtF, bI, zcN, c3, c4, c5, not_false_eq_true, not_true_eq_false, and_self, and_true, true_and, and_false, false_and, ↓reduceIte]; rfl) | (simp [vtF, bI, zcN, c3, c4, c5]; done) | rfl⟩)
  · refine v_eqi 0 (bI_f c3) ?_
    refine v_if_ne C 13 dX4_votes_8 (by decide) (fun h => absurd h (by decide)) (fun _ => ?_)
    refine v_iconst C (-1) dX4_votes_11 (by decide) ?_
    exact v_reti C hA dX4_votes_12 rfl (⟨_, _, _, _, _, _, _, _, _, _, _, _, by first | (simp only [vtF, bI, c3, not_false_eq_true, not_true_eq_false, and_self, and_true, true_and, and_false, false_and, ↓reduceIte]; done) | (simp only [vtF, bI, c3, not_false_eq_true, not_true_eq_false, and_self, and_true, true_and, and_false, false_and, ↓reduceIte]; rfl) | (simp [vtF, bI, c3]; done) | rfl, by first | (simp only [vtF, bI, c3, not_false_eq_true, not_true_eq_false, and_self, and_true, true_and, and_false, false_and, ↓reduceIte]; done) | (simp only [vtF, bI, c3, not_false_eq_true, not_true_eq_false, and_self, and_true, true_and, and_false, false_and, ↓reduceIte]; rfl) | (simp [vtF, bI, c3]; done) | rfl⟩)
set_option maxHeartbeats 4000000 in
set_option maxRecDepth 100000 in
theorem m_X4_tell {l : Launch} {D : va_G} {cI cB cS : ClassId} (a : Nat → Nat) (nj nc wl s0 st nr : Nat) (tr : Int32) (fa : Int32) (bo : Nat → Int32) (ln : Int32) (lw : Int32) (ss : Int32) (sx : Int32) (un : Int32) (en : Int32) (se : Int32) (tk : Nat → Int32) (od : Nat → Int32) (ve : Nat → Int32) (vd : Nat → Int32) (si : Int32) (kd : Nat → Int32) (ag : Nat → Int32) (de : Nat → Int32) (ta : Nat → Int32) (we : Nat → Int32) (rC : Nat → Int32) (rH : Nat → Int32) (j : Int32) (hnj : nj ≤ 5) (hnc : nc ≤ 5) (hlw : wl < 64) (hs0 : s0 < 2 ^ nj) (hst2 : st < 2 ^ nj) (hp5 : 2 ^ nj ≤ 32) (hnr : nr ≤ 8) : Mi l yX4_tell cX4_tell 2 (some .int) 4 84 D cI cB cS [.ref (a 0), .int j] [oC a tr fa, ia (a 5) cI 5 bo, oT a ln lw ss sx un en se, ia (a 31) cI 5 tk, ia (a 32) cI 5 od, ia (a 33) cI 5 ve, ia (a 34) cI 6 vd, oK a si (nI nj) (nI nc) (nI wl) (nI s0) (nI st) (nI nr), ia (a 20) cI 5 kd, ia (a 21) cI 5 ag, ia (a 22) cI 5 de, ia (a 23) cI 5 ta, ia (a 24) cI 5 we, ia (a 25) cI 8 rC, ia (a 26) cI 8 rH] (fun r w => r = tlF nj kd ag j ∧ w = [oC a (tlT nj kd tr j) fa, ia (a 5) cI 5 bo, oT a ln lw ss sx un en se, ia (a 31) cI 5 tk, ia (a 32) cI 5 od, ia (a 33) cI 5 ve, ia (a 34) cI 6 vd, oK a si (nI nj) (nI nc) (nI wl) (nI s0) (nI st) (nI nr), ia (a 20) cI 5 kd, ia (a 21) cI 5 ag, ia (a 22) cI 5 de, ia (a 23) cI 5 ta, ia (a 24) cI 5 we, ia (a 25) cI 8 rC, ia (a 26) cI 8 rH]) := by
  refine Mi.of (by decide) (Nat.le_of_ble_eq_true rfl) ?_
  intro zp ze zs zm zb zt zc zz zA hA C hnm
  refine v_lv0 [(0, .ref (a 0)), (1, .int j)] rfl ?_
  refine v_aload_n C dX4_tell_0 0 rfl ?_
  refine v_get C f_X4_27 dX4_tell_1 0 rfl rfl ?_
  refine v_iload_n C dX4_tell_4 1 rfl ?_
  refine v_callRi C l_X4_75 (m_X0_isJuror a si (nI nj) (nI nc) (nI wl) (nI s0) (nI st) (nI nr) j) (by decide) dX4_tell_5 [7] rfl 7 rfl rfl rfl (rest := []) rfl (Nat.le_of_ble_eq_true rfl) (by decide) (fun r1 h2 => ?_)
  subst h2
  by_cases c3 : ¬ j < 0 ∧ ¬ (nI nj) ≤ j
  · refine v_eqi 1 (bI_t c3) ?_
    refine v_if_ne C 13 dX4_tell_8 (by decide) (fun _ => ?_) (fun h => absurd h (by decide))
    obtain ⟨jN, hjN, rfl⟩ := ix_of' (by omega) c3
    have zjN : (nI jN).toNatClampNeg = jN := nI_clamp (by omega)
    refine v_aload_n C dX4_tell_13 0 rfl ?_
    refine v_get C f_X4_27 dX4_tell_14 0 rfl rfl ?_
    refine v_get C f_X4_78 dX4_tell_17 7 rfl rfl ?_
    refine v_iload_n C dX4_tell_20 1 rfl ?_
    refine v_ialdN C dX4_tell_21 8 rfl jN rfl (by omega) (by decide) ?_
    by_cases e4 : kd jN = 1
    · refine v_lookup C 54 dX4_tell_22 (by decide) (by rw [e4] <;> rfl) (by decide) ?_
      refine v_aload_n C dX4_tell_54 0 rfl ?_
      refine v_iload_n C dX4_tell_55 1 rfl ?_
      refine v_callMi C l_X4_217 (m_X4_hungryTelling a jN tr fa si (nI nj) (nI nc) (nI wl) (nI s0) (nI st) (nI nr) ag (by omega)) (by decide) dX4_tell_56 [0, 7, 9] [1, 2, 3, 4, 5, 6, 8, 10, 11, 12, 13, 14] (wr := [ia (a 5) cI 5 bo, oT a ln lw ss sx un en se, ia (a 31) cI 5 tk, ia (a 32) cI 5 od, ia (a 33) cI 5 ve, ia (a 34) cI 6 vd, ia (a 20) cI 5 kd, ia (a 22) cI 5 de, ia (a 23) cI 5 ta, ia (a 24) cI 5 we, ia (a 25) cI 8 rC, ia (a 26) cI 8 rH]) (by decide) rfl rfl (by decide) (by decide) 0 rfl rfl rfl (rest := []) rfl (Nat.le_of_ble_eq_true rfl) (by decide) (fun r7 w5 h6 => ?_)
      obtain ⟨rfl, rfl⟩ := h6
      refine v_ws0 [ia (a 5) cI 5 bo, oT a ln lw ss sx un en se, ia (a 31) cI 5 tk, ia (a 32) cI 5 od, ia (a 33) cI 5 ve, ia (a 34) cI 6 vd, ia (a 20) cI 5 kd, ia (a 22) cI 5 de, ia (a 23) cI 5 ta, ia (a 24) cI 5 we, ia (a 25) cI 8 rC, ia (a 26) cI 8 rH, oC a (31 * (31 * tr + 2) + 1) fa, oK a si (nI nj) (nI nc) (nI wl) (nI s0) (nI st) (nI nr), ia (a 21) cI 5 ag] rfl ?_
      refine v_perm (ws' := [oC a (31 * (31 * tr + 2) + 1) fa, ia (a 5) cI 5 bo, oT a ln lw ss sx un en se, ia (a 31) cI 5 tk, ia (a 32) cI 5 od, ia (a 33) cI 5 ve, ia (a 34) cI 6 vd, oK a si (nI nj) (nI nc) (nI wl) (nI s0) (nI st) (nI nr), ia (a 20) cI 5 kd, ia (a 21) cI 5 ag, ia (a 22) cI 5 de, ia (a 23) cI 5 ta, ia (a 24) cI 5 we, ia (a 25) cI 8 rC, ia (a 26) cI 8 rH]) [12, 0, 1, 2, 3, 4, 5, 13, 6, 14, 7, 8, 9, 10, 11] (by decide) rfl ?_
      exact v_reti C hA dX4_tell_59 rfl (⟨by first | (simp only [tlF, tlT, bI, zjN, c3, e4, not_false_eq_true, not_true_eq_false, and_self, and_true, true_and, and_false, false_and, ↓reduceIte]; done) | (simp only [tlF, tlT, bI, zjN, c3, e4, not_false_eq_true, not_true_eq_false, and_self, and_true, true_and, and_false, false_and, ↓reduceIte]; rfl) | (simp [tlF, tlT, bI, zjN, c3, e4]; done) | rfl, by first | (simp only [tlF, tlT, bI, zjN, c3, e4, not_false_eq_true, not_true_eq_false, and_self, and_true, true_and, and_false, false_and, ↓reduceIte]; done) | (simp only [tlF, tlT, bI, zjN, c3, e4, not_false_eq_true, not_true_eq_false, and_self, and_true, true_and, and_false, false_and, ↓reduceIte]; rfl) | (simp [tlF, tlT, bI, zjN, c3, e4]; done) | rfl⟩)
    by_cases e8 : kd jN = 2
    · refine v_lookup C 48 dX4_tell_22 (by decide) (by rw [e8] <;> rfl) (by decide) ?_
      refine v_aload_n C dX4_tell_48 0 rfl ?_
      refine v_iload_n C dX4_tell_49 1 rfl ?_
      refine v_callMi C l_X4_214 (m_X4_sweetTelling a jN tr fa si (nI nj) (nI nc) (nI wl) (nI s0) (nI st) (nI nr) ag (by omega)) (by decide) dX4_tell_50 [0, 7, 9] [1, 2, 3, 4, 5, 6, 8, 10, 11, 12, 13, 14] (wr := [ia (a 5) cI 5 bo, oT a ln lw ss sx un en se, ia (a 31) cI 5 tk, ia (a 32) cI 5 od, ia (a 33) cI 5 ve, ia (a 34) cI 6 vd, ia (a 20) cI 5 kd, ia (a 22) cI 5 de, ia (a 23) cI 5 ta, ia (a 24) cI 5 we, ia (a 25) cI 8 rC, ia (a 26) cI 8 rH]) (by decide) rfl rfl (by decide) (by decide) 0 rfl rfl rfl (rest := []) rfl (Nat.le_of_ble_eq_true rfl) (by decide) (fun r11 w9 h10 => ?_)
      obtain ⟨rfl, rfl⟩ := h10
      refine v_ws0 [ia (a 5) cI 5 bo, oT a ln lw ss sx un en se, ia (a 31) cI 5 tk, ia (a 32) cI 5 od, ia (a 33) cI 5 ve, ia (a 34) cI 6 vd, ia (a 20) cI 5 kd, ia (a 22) cI 5 de, ia (a 23) cI 5 ta, ia (a 24) cI 5 we, ia (a 25) cI 8 rC, ia (a 26) cI 8 rH, oC a (31 * (31 * (31 * (31 * tr + 3) + 2) + 1) + 1) fa, oK a si (nI nj) (nI nc) (nI wl) (nI s0) (nI st) (nI nr), ia (a 21) cI 5 ag] rfl ?_
      refine v_perm (ws' := [oC a (31 * (31 * (31 * (31 * tr + 3) + 2) + 1) + 1) fa, ia (a 5) cI 5 bo, oT a ln lw ss sx un en se, ia (a 31) cI 5 tk, ia (a 32) cI 5 od, ia (a 33) cI 5 ve, ia (a 34) cI 6 vd, oK a si (nI nj) (nI nc) (nI wl) (nI s0) (nI st) (nI nr), ia (a 20) cI 5 kd, ia (a 21) cI 5 ag, ia (a 22) cI 5 de, ia (a 23) cI 5 ta, ia (a 24) cI 5 we, ia (a 25) cI 8 rC, ia (a 26) cI 8 rH]) [12, 0, 1, 2, 3, 4, 5, 13, 6, 14, 7, 8, 9, 10, 11] (by decide) rfl ?_
      exact v_reti C hA dX4_tell_53 rfl (⟨by first | (simp only [tlF, tlT, bI, zjN, c3, e8, e4, not_false_eq_true, not_true_eq_false, and_self, and_true, true_and, and_false, false_and, ↓reduceIte]; done) | (simp only [tlF, tlT, bI, zjN, c3, e8, e4, not_false_eq_true, not_true_eq_false, and_self, and_true, true_and, and_false, false_and, ↓reduceIte]; rfl) | (simp [tlF, tlT, bI, zjN, c3, e8, e4]; done) | rfl, by first | (simp only [tlF, tlT, bI, zjN, c3, e8, e4, not_false_eq_true, not_true_eq_false, and_self, and_true, true_and, and_false, false_and, ↓reduceIte]; done) | (simp only [tlF, tlT, bI, zjN, c3, e8, e4, not_false_eq_true, not_true_eq_false, and_self, and_true, true_and, and_false, false_and, ↓reduceIte]; rfl) | (simp [tlF, tlT, bI, zjN, c3, e8, e4]; done) | rfl⟩)
    refine v_lookup C 60 dX4_tell_22 (by decide) (off := 38) (by rw [lv_osw e4 (by decide)]; rw [lv_osw e8 (by decide)]; rfl) (by decide) ?_
    refine v_aload_n C dX4_tell_60 0 rfl ?_
    refine v_iload_n C dX4_tell_61 1 rfl ?_
    refine v_callMi C l_X4_220 (m_X4_childTelling a jN tr fa si (nI nj) (nI nc) (nI wl) (nI s0) (nI st) (nI nr) ag (by omega)) (by decide) dX4_tell_62 [0, 7, 9] [1, 2, 3, 4, 5, 6, 8, 10, 11, 12, 13, 14] (wr := [ia (a 5) cI 5 bo, oT a ln lw ss sx un en se, ia (a 31) cI 5 tk, ia (a 32) cI 5 od, ia (a 33) cI 5 ve, ia (a 34) cI 6 vd, ia (a 20) cI 5 kd, ia (a 22) cI 5 de, ia (a 23) cI 5 ta, ia (a 24) cI 5 we, ia (a 25) cI 8 rC, ia (a 26) cI 8 rH]) (by decide) rfl rfl (by decide) (by decide) 0 rfl rfl rfl (rest := []) rfl (Nat.le_of_ble_eq_true rfl) (by decide) (fun r14 w12 h13 => ?_)
    obtain ⟨rfl, rfl⟩ := h13
    refine v_ws0 [ia (a 5) cI 5 bo, oT a ln lw ss sx un en se, ia (a 31) cI 5 tk, ia (a 32) cI 5 od, ia (a 33) cI 5 ve, ia (a 34) cI 6 vd, ia (a 20) cI 5 kd, ia (a 22) cI 5 de, ia (a 23) cI 5 ta, ia (a 24) cI 5 we, ia (a 25) cI 8 rC, ia (a 26) cI 8 rH, oC a (31 * tr + 1) fa, oK a si (nI nj) (nI nc) (nI wl) (nI s0) (nI st) (nI nr), ia (a 21) cI 5 ag] rfl ?_
    refine v_perm (ws' := [oC a (31 * tr + 1) fa, ia (a 5) cI 5 bo, oT a ln lw ss sx un en se, ia (a 31) cI 5 tk, ia (a 32) cI 5 od, ia (a 33) cI 5 ve, ia (a 34) cI 6 vd, oK a si (nI nj) (nI nc) (nI wl) (nI s0) (nI st) (nI nr), ia (a 20) cI 5 kd, ia (a 21) cI 5 ag, ia (a 22) cI 5 de, ia (a 23) cI 5 ta, ia (a 24) cI 5 we, ia (a 25) cI 8 rC, ia (a 26) cI 8 rH]) [12, 0, 1, 2, 3, 4, 5, 13, 6, 14, 7, 8, 9, 10, 11] (by decide) rfl ?_
    exact v_reti C hA dX4_tell_65 rfl (⟨by first | (simp only [tlF, tlT, bI, zjN, c3, e4, e8, not_false_eq_true, not_true_eq_false, and_self, and_true, true_and, and_false, false_and, ↓reduceIte]; done) | (simp only [tlF, tlT, bI, zjN, c3, e4, e8, not_false_eq_true, not_true_eq_false, and_self, and_true, true_and, and_false, false_and, ↓reduceIte]; rfl) | (simp [tlF, tlT, bI, zjN, c3, e4, e8]; done) | rfl, by first | (simp only [tlF, tlT, bI, zjN, c3, e4, e8, not_false_eq_true, not_true_eq_false, and_self, and_true, true_and, and_false, false_and, ↓reduceIte]; done) | (simp only [tlF, tlT, bI, zjN, c3, e4, e8, not_false_eq_true, not_true_eq_false, and_self, and_true, true_and, and_false, false_and, ↓reduceIte]; rfl) | (simp [tlF, tlT, bI, zjN, c3, e4, e8]; done) | rfl⟩)
  · refine v_eqi 0 (bI_f c3) ?_
    refine v_if_ne C 13 dX4_tell_8 (by decide) (fun h => absurd h (by decide)) (fun _ => ?_)
    refine v_iconst C (-1) dX4_tell_11 (by decide) ?_
    exact v_reti C hA dX4_tell_12 rfl (⟨by first | (simp only [tlF, tlT, bI, c3, not_false_eq_true, not_true_eq_false, and_self, and_true, true_and, and_false, false_and, ↓reduceIte]; done) | (simp only [tlF, tlT, bI, c3, not_false_eq_true, not_true_eq_false, and_self, and_true, true_and, and_false, false_and, ↓reduceIte]; rfl) | (simp [tlF, tlT, bI, c3]; done) | rfl, by first | (simp only [tlF, tlT, bI, c3, not_false_eq_true, not_true_eq_false, and_self, and_true, true_and, and_false, false_and, ↓reduceIte]; done) | (simp only [tlF, tlT, bI, c3, not_false_eq_true, not_true_eq_false, and_self, and_true, true_and, and_false, false_and, ↓reduceIte]; rfl) | (simp [tlF, tlT, bI, c3]; done) | rfl⟩)
set_option maxHeartbeats 4000000 in
set_option maxRecDepth 100000 in
theorem m_X4_hush {l : Launch} {D : va_G} {cI cB cS : ClassId} (a : Nat → Nat) (nj nc wl s0 st nr : Nat) (tr : Int32) (fa : Int32) (bo : Nat → Int32) (ln : Int32) (lw : Int32) (ss : Int32) (sx : Int32) (un : Int32) (en : Int32) (se : Int32) (tk : Nat → Int32) (od : Nat → Int32) (ve : Nat → Int32) (vd : Nat → Int32) (si : Int32) (kd : Nat → Int32) (ag : Nat → Int32) (de : Nat → Int32) (ta : Nat → Int32) (we : Nat → Int32) (rC : Nat → Int32) (rH : Nat → Int32) (j : Int32) (hnj : nj ≤ 5) (hnc : nc ≤ 5) (hlw : wl < 64) (hs0 : s0 < 2 ^ nj) (hst2 : st < 2 ^ nj) (hp5 : 2 ^ nj ≤ 32) (hnr : nr ≤ 8) : Mi l yX4_hush cX4_hush 2 (some .int) 1 21 D cI cB cS [.ref (a 0), .int j] [oC a tr fa, ia (a 5) cI 5 bo, oT a ln lw ss sx un en se, ia (a 31) cI 5 tk, ia (a 32) cI 5 od, ia (a 33) cI 5 ve, ia (a 34) cI 6 vd, oK a si (nI nj) (nI nc) (nI wl) (nI s0) (nI st) (nI nr), ia (a 20) cI 5 kd, ia (a 21) cI 5 ag, ia (a 22) cI 5 de, ia (a 23) cI 5 ta, ia (a 24) cI 5 we, ia (a 25) cI 8 rC, ia (a 26) cI 8 rH] (fun r w => r = huF nj kd j ∧ w = [oC a (huT nj kd tr j) fa, ia (a 5) cI 5 bo, oT a ln lw ss sx un en se, ia (a 31) cI 5 tk, ia (a 32) cI 5 od, ia (a 33) cI 5 ve, ia (a 34) cI 6 vd, oK a si (nI nj) (nI nc) (nI wl) (nI s0) (nI st) (nI nr), ia (a 20) cI 5 kd, ia (a 21) cI 5 ag, ia (a 22) cI 5 de, ia (a 23) cI 5 ta, ia (a 24) cI 5 we, ia (a 25) cI 8 rC, ia (a 26) cI 8 rH]) := by
  refine Mi.of (by decide) (Nat.le_of_ble_eq_true rfl) ?_
  intro zp ze zs zm zb zt zc zz zA hA C hnm
  refine v_lv0 [(0, .ref (a 0)), (1, .int j)] rfl ?_
  refine v_aload_n C dX4_hush_0 0 rfl ?_
  refine v_get C f_X4_27 dX4_hush_1 0 rfl rfl ?_
  refine v_iload_n C dX4_hush_4 1 rfl ?_
  refine v_callRi C l_X4_75 (m_X0_isJuror a si (nI nj) (nI nc) (nI wl) (nI s0) (nI st) (nI nr) j) (by decide) dX4_hush_5 [7] rfl 7 rfl rfl rfl (rest := []) rfl (Nat.le_of_ble_eq_true rfl) (by decide) (fun r1 h2 => ?_)
  subst h2
  by_cases c3 : ¬ j < 0 ∧ ¬ (nI nj) ≤ j
  · refine v_eqi 1 (bI_t c3) ?_
    refine v_if_ne C 13 dX4_hush_8 (by decide) (fun _ => ?_) (fun h => absurd h (by decide))
    obtain ⟨jN, hjN, rfl⟩ := ix_of' (by omega) c3
    have zjN : (nI jN).toNatClampNeg = jN := nI_clamp (by omega)
    refine v_aload_n C dX4_hush_13 0 rfl ?_
    refine v_get C f_X4_27 dX4_hush_14 0 rfl rfl ?_
    refine v_get C f_X4_78 dX4_hush_17 7 rfl rfl ?_
    refine v_iload_n C dX4_hush_20 1 rfl ?_
    refine v_ialdN C dX4_hush_21 8 rfl jN rfl (by omega) (by decide) ?_
    refine v_iconst C 2 dX4_hush_22 (by decide) ?_
    refine v_icmp_ne C 34 dX4_hush_23 (by decide) (fun c4 => ?_) (fun c4 => ?_)
    · refine v_aload_n C dX4_hush_34 0 rfl ?_
      refine v_iconst C 4 dX4_hush_35 (by decide) ?_
      refine v_callMv C l_X4_223 (m_X4_leaveInTrace a tr fa 4) (by decide) dX4_hush_36 [0] [1, 2, 3, 4, 5, 6, 7, 8, 9, 10, 11, 12, 13, 14] (wr := [ia (a 5) cI 5 bo, oT a ln lw ss sx un en se, ia (a 31) cI 5 tk, ia (a 32) cI 5 od, ia (a 33) cI 5 ve, ia (a 34) cI 6 vd, oK a si (nI nj) (nI nc) (nI wl) (nI s0) (nI st) (nI nr), ia (a 20) cI 5 kd, ia (a 21) cI 5 ag, ia (a 22) cI 5 de, ia (a 23) cI 5 ta, ia (a 24) cI 5 we, ia (a 25) cI 8 rC, ia (a 26) cI 8 rH]) (by decide) rfl rfl (by decide) (by decide) 0 rfl rfl rfl (rest := []) rfl (Nat.le_of_ble_eq_true rfl) (by decide) (fun w5 h6 => ?_)
      subst h6
      refine v_ws0 [ia (a 5) cI 5 bo, oT a ln lw ss sx un en se, ia (a 31) cI 5 tk, ia (a 32) cI 5 od, ia (a 33) cI 5 ve, ia (a 34) cI 6 vd, oK a si (nI nj) (nI nc) (nI wl) (nI s0) (nI st) (nI nr), ia (a 20) cI 5 kd, ia (a 21) cI 5 ag, ia (a 22) cI 5 de, ia (a 23) cI 5 ta, ia (a 24) cI 5 we, ia (a 25) cI 8 rC, ia (a 26) cI 8 rH, oC a (31 * tr + (4 : Int32)) fa] rfl ?_
      refine v_iload_n C dX4_hush_39 1 rfl ?_
      refine v_perm (ws' := [oC a (31 * tr + (4 : Int32)) fa, ia (a 5) cI 5 bo, oT a ln lw ss sx un en se, ia (a 31) cI 5 tk, ia (a 32) cI 5 od, ia (a 33) cI 5 ve, ia (a 34) cI 6 vd, oK a si (nI nj) (nI nc) (nI wl) (nI s0) (nI st) (nI nr), ia (a 20) cI 5 kd, ia (a 21) cI 5 ag, ia (a 22) cI 5 de, ia (a 23) cI 5 ta, ia (a 24) cI 5 we, ia (a 25) cI 8 rC, ia (a 26) cI 8 rH]) [14, 0, 1, 2, 3, 4, 5, 6, 7, 8, 9, 10, 11, 12, 13] (by decide) rfl ?_
      exact v_reti C hA dX4_hush_40 rfl (⟨by first | (simp only [huF, huT, bI, zjN, c3, c4, not_false_eq_true, not_true_eq_false, and_self, and_true, true_and, and_false, false_and, ↓reduceIte]; done) | (simp only [huF, huT, bI, zjN, c3, c4, not_false_eq_true, not_true_eq_false, and_self, and_true, true_and, and_false, false_and, ↓reduceIte]; rfl) | (simp [huF, huT, bI, zjN, c3, c4]; done) | rfl, by first | (simp only [huF, huT, bI, zjN, c3, c4, not_false_eq_true, not_true_eq_false, and_self, and_true, true_and, and_false, false_and, ↓reduceIte]; done) | (simp only [huF, huT, bI, zjN, c3, c4, not_false_eq_true, not_true_eq_false, and_self, and_true, true_and, and_false, false_and, ↓reduceIte]; rfl) | (simp [huF, huT, bI, zjN, c3, c4]; done) | rfl⟩)
    · refine v_aload_n C dX4_hush_26 0 rfl ?_
      refine v_iconst C 5 dX4_hush_27 (by decide) ?_
      refine v_callMv C l_X4_223 (m_X4_leaveInTrace a tr fa 5) (by decide) dX4_hush_28 [0] [1, 2, 3, 4, 5, 6, 7, 8, 9, 10, 11, 12, 13, 14] (wr := [ia (a 5) cI 5 bo, oT a ln lw ss sx un en se, ia (a 31) cI 5 tk, ia (a 32) cI 5 od, ia (a 33) cI 5 ve, ia (a 34) cI 6 vd, oK a si (nI nj) (nI nc) (nI wl) (nI s0) (nI st) (nI nr), ia (a 20) cI 5 kd, ia (a 21) cI 5 ag, ia (a 22) cI 5 de, ia (a 23) cI 5 ta, ia (a 24) cI 5 we, ia (a 25) cI 8 rC, ia (a 26) cI 8 rH]) (by decide) rfl rfl (by decide) (by decide) 0 rfl rfl rfl (rest := []) rfl (Nat.le_of_ble_eq_true rfl) (by decide) (fun w8 h9 => ?_)
      subst h9
      refine v_ws0 [ia (a 5) cI 5 bo, oT a ln lw ss sx un en se, ia (a 31) cI 5 tk, ia (a 32) cI 5 od, ia (a 33) cI 5 ve, ia (a 34) cI 6 vd, oK a si (nI nj) (nI nc) (nI wl) (nI s0) (nI st) (nI nr), ia (a 20) cI 5 kd, ia (a 21) cI 5 ag, ia (a 22) cI 5 de, ia (a 23) cI 5 ta, ia (a 24) cI 5 we, ia (a 25) cI 8 rC, ia (a 26) cI 8 rH, oC a (31 * tr + (5 : Int32)) fa] rfl ?_
      refine v_bipush C 70 dX4_hush_31 (by decide) ?_
      refine v_perm (ws' := [oC a (31 * tr + (5 : Int32)) fa, ia (a 5) cI 5 bo, oT a ln lw ss sx un en se, ia (a 31) cI 5 tk, ia (a 32) cI 5 od, ia (a 33) cI 5 ve, ia (a 34) cI 6 vd, oK a si (nI nj) (nI nc) (nI wl) (nI s0) (nI st) (nI nr), ia (a 20) cI 5 kd, ia (a 21) cI 5 ag, ia (a 22) cI 5 de, ia (a 23) cI 5 ta, ia (a 24) cI 5 we, ia (a 25) cI 8 rC, ia (a 26) cI 8 rH]) [14, 0, 1, 2, 3, 4, 5, 6, 7, 8, 9, 10, 11, 12, 13] (by decide) rfl ?_
      exact v_reti C hA dX4_hush_33 rfl (⟨by first | (simp only [huF, huT, bI, zjN, c3, c4, not_false_eq_true, not_true_eq_false, and_self, and_true, true_and, and_false, false_and, ↓reduceIte]; done) | (simp only [huF, huT, bI, zjN, c3, c4, not_false_eq_true, not_true_eq_false, and_self, and_true, true_and, and_false, false_and, ↓reduceIte]; rfl) | (simp [huF, huT, bI, zjN, c3, c4]; done) | rfl, by first | (simp only [huF, huT, bI, zjN, c3, c4, not_false_eq_true, not_true_eq_false, and_self, and_true, true_and, and_false, false_and, ↓reduceIte]; done) | (simp only [huF, huT, bI, zjN, c3, c4, not_false_eq_true, not_true_eq_false, and_self, and_true, true_and, and_false, false_and, ↓reduceIte]; rfl) | (simp [huF, huT, bI, zjN, c3, c4]; done) | rfl⟩)
  · refine v_eqi 0 (bI_f c3) ?_
    refine v_if_ne C 13 dX4_hush_8 (by decide) (fun h => absurd h (by decide)) (fun _ => ?_)
    refine v_iconst C (-1) dX4_hush_11 (by decide) ?_
    exact v_reti C hA dX4_hush_12 rfl (⟨by first | (simp only [huF, huT, bI, c3, not_false_eq_true, not_true_eq_false, and_self, and_true, true_and, and_false, false_and, ↓reduceIte]; done) | (simp only [huF, huT, bI, c3, not_false_eq_true, not_true_eq_false, and_self, and_true, true_and, and_false, false_and, ↓reduceIte]; rfl) | (simp [huF, huT, bI, c3]; done) | rfl, by first | (simp only [huF, huT, bI, c3, not_false_eq_true, not_true_eq_false, and_self, and_true, true_and, and_false, false_and, ↓reduceIte]; done) | (simp only [huF, huT, bI, c3, not_false_eq_true, not_true_eq_false, and_self, and_true, true_and, and_false, false_and, ↓reduceIte]; rfl) | (simp [huF, huT, bI, c3]; done) | rfl⟩)
set_option maxHeartbeats 4000000 in
set_option maxRecDepth 100000 in
theorem m_X4_as {l : Launch} {D : va_G} {cI cB cS : ClassId} (a : Nat → Nat) (nj nc wl s0 st nr : Nat) (tr : Int32) (fa : Int32) (bo : Nat → Int32) (ln : Int32) (lw : Int32) (ss : Int32) (sx : Int32) (un : Int32) (en : Int32) (se : Int32) (tk : Nat → Int32) (od : Nat → Int32) (ve : Nat → Int32) (vd : Nat → Int32) (si : Int32) (kd : Nat → Int32) (ag : Nat → Int32) (de : Nat → Int32) (ta : Nat → Int32) (we : Nat → Int32) (rC : Nat → Int32) (rH : Nat → Int32) (j : Int32) (x : Int32) (hnj : nj ≤ 5) (hnc : nc ≤ 5) (hlw : wl < 64) (hs0 : s0 < 2 ^ nj) (hst2 : st < 2 ^ nj) (hp5 : 2 ^ nj ≤ 32) (hnr : nr ≤ 8) : Mi l yX4_as cX4_as 3 (some .int) 1 21 D cI cB cS [.ref (a 0), .int j, .int x] [oC a tr fa, ia (a 5) cI 5 bo, oT a ln lw ss sx un en se, ia (a 31) cI 5 tk, ia (a 32) cI 5 od, ia (a 33) cI 5 ve, ia (a 34) cI 6 vd, oK a si (nI nj) (nI nc) (nI wl) (nI s0) (nI st) (nI nr), ia (a 20) cI 5 kd, ia (a 21) cI 5 ag, ia (a 22) cI 5 de, ia (a 23) cI 5 ta, ia (a 24) cI 5 we, ia (a 25) cI 8 rC, ia (a 26) cI 8 rH] (fun r w => r = asF nj kd j x ∧ w = [oC a tr (asT nj kd j x), ia (a 5) cI 5 bo, oT a ln lw ss sx un en se, ia (a 31) cI 5 tk, ia (a 32) cI 5 od, ia (a 33) cI 5 ve, ia (a 34) cI 6 vd, oK a si (nI nj) (nI nc) (nI wl) (nI s0) (nI st) (nI nr), ia (a 20) cI 5 kd, ia (a 21) cI 5 ag, ia (a 22) cI 5 de, ia (a 23) cI 5 ta, ia (a 24) cI 5 we, ia (a 25) cI 8 rC, ia (a 26) cI 8 rH]) := by
  refine Mi.of (by decide) (Nat.le_of_ble_eq_true rfl) ?_
  intro zp ze zs zm zb zt zc zz zA hA C hnm
  refine v_lv0 [(0, .ref (a 0)), (1, .int j), (2, .int x)] rfl ?_
  refine v_aload_n C dX4_as_0 0 rfl ?_
  refine v_iconst C 0 dX4_as_1 (by decide) ?_
  refine v_put C p_X4_45 [oC a tr 0, ia (a 5) cI 5 bo, oT a ln lw ss sx un en se, ia (a 31) cI 5 tk, ia (a 32) cI 5 od, ia (a 33) cI 5 ve, ia (a 34) cI 6 vd, oK a si (nI nj) (nI nc) (nI wl) (nI s0) (nI st) (nI nr), ia (a 20) cI 5 kd, ia (a 21) cI 5 ag, ia (a 22) cI 5 de, ia (a 23) cI 5 ta, ia (a 24) cI 5 we, ia (a 25) cI 8 rC, ia (a 26) cI 8 rH] dX4_as_2 0 rfl rfl rfl (Nat.le_of_ble_eq_true rfl) rfl ?_
  refine v_aload_n C dX4_as_5 0 rfl ?_
  refine v_get C f_X4_27 dX4_as_6 0 rfl rfl ?_
  refine v_iload_n C dX4_as_9 1 rfl ?_
  refine v_callRi C l_X4_75 (m_X0_isJuror a si (nI nj) (nI nc) (nI wl) (nI s0) (nI st) (nI nr) j) (by decide) dX4_as_10 [7] rfl 7 rfl rfl rfl (rest := []) rfl (Nat.le_of_ble_eq_true rfl) (by decide) (fun r1 h2 => ?_)
  subst h2
  by_cases c3 : ¬ j < 0 ∧ ¬ (nI nj) ≤ j
  · refine v_eqi 1 (bI_t c3) ?_
    refine v_if_ne C 18 dX4_as_13 (by decide) (fun _ => ?_) (fun h => absurd h (by decide))
    obtain ⟨jN, hjN, rfl⟩ := ix_of' (by omega) c3
    have zjN : (nI jN).toNatClampNeg = jN := nI_clamp (by omega)
    refine v_iload_n C dX4_as_18 2 rfl ?_
    refine v_if_lt C 27 dX4_as_19 (by decide) (fun c4 => ?_) (fun c4 => ?_)
    · refine v_bipush C (-2) dX4_as_27 (by decide) ?_
      exact v_reti C hA dX4_as_29 rfl (⟨by first | (simp only [asF, asT, bI, zjN, c3, c4, not_false_eq_true, not_true_eq_false, and_self, and_true, true_and, and_false, false_and, ↓reduceIte]; done) | (simp only [asF, asT, bI, zjN, c3, c4, not_false_eq_true, not_true_eq_false, and_self, and_true, true_and, and_false, false_and, ↓reduceIte]; rfl) | (simp [asF, asT, bI, zjN, c3, c4]; done) | rfl, by first | (simp only [asF, asT, bI, zjN, c3, c4, not_false_eq_true, not_true_eq_false, and_self, and_true, true_and, and_false, false_and, ↓reduceIte]; done) | (simp only [asF, asT, bI, zjN, c3, c4, not_false_eq_true, not_true_eq_false, and_self, and_true, true_and, and_false, false_and, ↓reduceIte]; rfl) | (simp [asF, asT, bI, zjN, c3, c4]; done) | rfl⟩)
    · refine v_iload_n C dX4_as_22 2 rfl ?_
      refine v_iconst C 3 dX4_as_23 (by decide) ?_
      refine v_icmp_lt C 30 dX4_as_24 (by decide) (fun c5 => ?_) (fun c5 => ?_)
      · refine v_aload_n C dX4_as_30 0 rfl ?_
        refine v_get C f_X4_27 dX4_as_31 0 rfl rfl ?_
        refine v_get C f_X4_78 dX4_as_34 7 rfl rfl ?_
        refine v_iload_n C dX4_as_37 1 rfl ?_
        refine v_ialdN C dX4_as_38 8 rfl jN rfl (by omega) (by decide) ?_
        refine v_iload_n C dX4_as_39 2 rfl ?_
        refine v_icmp_ge C 51 dX4_as_40 (by decide) (fun c6 => ?_) (fun c6 => ?_)
        · refine v_iconst C 1 dX4_as_51 (by decide) ?_
          exact v_reti C hA dX4_as_52 rfl (⟨by first | (simp only [asF, asT, bI, zjN, c3, c4, c5, c6, not_false_eq_true, not_true_eq_false, and_self, and_true, true_and, and_false, false_and, ↓reduceIte]; done) | (simp only [asF, asT, bI, zjN, c3, c4, c5, c6, not_false_eq_true, not_true_eq_false, and_self, and_true, true_and, and_false, false_and, ↓reduceIte]; rfl) | (simp [asF, asT, bI, zjN, c3, c4, c5, c6]; done) | rfl, by first | (simp only [asF, asT, bI, zjN, c3, c4, c5, c6, not_false_eq_true, not_true_eq_false, and_self, and_true, true_and, and_false, false_and, ↓reduceIte]; done) | (simp only [asF, asT, bI, zjN, c3, c4, c5, c6, not_false_eq_true, not_true_eq_false, and_self, and_true, true_and, and_false, false_and, ↓reduceIte]; rfl) | (simp [asF, asT, bI, zjN, c3, c4, c5, c6]; done) | rfl⟩)
        · refine v_aload_n C dX4_as_43 0 rfl ?_
          refine v_iconst C 2 dX4_as_44 (by decide) ?_
          refine v_callMi C l_X4_60 (m_X4_faulty a tr 0 2) (by decide) dX4_as_45 [0] [1, 2, 3, 4, 5, 6, 7, 8, 9, 10, 11, 12, 13, 14] (wr := [ia (a 5) cI 5 bo, oT a ln lw ss sx un en se, ia (a 31) cI 5 tk, ia (a 32) cI 5 od, ia (a 33) cI 5 ve, ia (a 34) cI 6 vd, oK a si (nI nj) (nI nc) (nI wl) (nI s0) (nI st) (nI nr), ia (a 20) cI 5 kd, ia (a 21) cI 5 ag, ia (a 22) cI 5 de, ia (a 23) cI 5 ta, ia (a 24) cI 5 we, ia (a 25) cI 8 rC, ia (a 26) cI 8 rH]) (by decide) rfl rfl (by decide) (by decide) 0 rfl rfl rfl (rest := []) rfl (Nat.le_of_ble_eq_true rfl) (by decide) (fun r9 w7 h8 => ?_)
          obtain ⟨rfl, rfl⟩ := h8
          refine v_ws0 [ia (a 5) cI 5 bo, oT a ln lw ss sx un en se, ia (a 31) cI 5 tk, ia (a 32) cI 5 od, ia (a 33) cI 5 ve, ia (a 34) cI 6 vd, oK a si (nI nj) (nI nc) (nI wl) (nI s0) (nI st) (nI nr), ia (a 20) cI 5 kd, ia (a 21) cI 5 ag, ia (a 22) cI 5 de, ia (a 23) cI 5 ta, ia (a 24) cI 5 we, ia (a 25) cI 8 rC, ia (a 26) cI 8 rH, oC a tr (2 : Int32)] rfl ?_
          refine v_goto C 52 dX4_as_48 (by decide) ?_
          refine v_perm (ws' := [oC a tr (2 : Int32), ia (a 5) cI 5 bo, oT a ln lw ss sx un en se, ia (a 31) cI 5 tk, ia (a 32) cI 5 od, ia (a 33) cI 5 ve, ia (a 34) cI 6 vd, oK a si (nI nj) (nI nc) (nI wl) (nI s0) (nI st) (nI nr), ia (a 20) cI 5 kd, ia (a 21) cI 5 ag, ia (a 22) cI 5 de, ia (a 23) cI 5 ta, ia (a 24) cI 5 we, ia (a 25) cI 8 rC, ia (a 26) cI 8 rH]) [14, 0, 1, 2, 3, 4, 5, 6, 7, 8, 9, 10, 11, 12, 13] (by decide) rfl ?_
          exact v_reti C hA dX4_as_52 rfl (⟨by first | (simp only [asF, asT, bI, zjN, c3, c4, c5, c6, not_false_eq_true, not_true_eq_false, and_self, and_true, true_and, and_false, false_and, ↓reduceIte]; done) | (simp only [asF, asT, bI, zjN, c3, c4, c5, c6, not_false_eq_true, not_true_eq_false, and_self, and_true, true_and, and_false, false_and, ↓reduceIte]; rfl) | (simp [asF, asT, bI, zjN, c3, c4, c5, c6]; done) | rfl, by first | (simp only [asF, asT, bI, zjN, c3, c4, c5, c6, not_false_eq_true, not_true_eq_false, and_self, and_true, true_and, and_false, false_and, ↓reduceIte]; done) | (simp only [asF, asT, bI, zjN, c3, c4, c5, c6, not_false_eq_true, not_true_eq_false, and_self, and_true, true_and, and_false, false_and, ↓reduceIte]; rfl) | (simp [asF, asT, bI, zjN, c3, c4, c5, c6]; done) | rfl⟩)
      · refine v_bipush C (-2) dX4_as_27 (by decide) ?_
        exact v_reti C hA dX4_as_29 rfl (⟨by first | (simp only [asF, asT, bI, zjN, c3, c4, c5, not_false_eq_true, not_true_eq_false, and_self, and_true, true_and, and_false, false_and, ↓reduceIte]; done) | (simp only [asF, asT, bI, zjN, c3, c4, c5, not_false_eq_true, not_true_eq_false, and_self, and_true, true_and, and_false, false_and, ↓reduceIte]; rfl) | (simp [asF, asT, bI, zjN, c3, c4, c5]; done) | rfl, by first | (simp only [asF, asT, bI, zjN, c3, c4, c5, not_false_eq_true, not_true_eq_false, and_self, and_true, true_and, and_false, false_and, ↓reduceIte]; done) | (simp only [asF, asT, bI, zjN, c3, c4, c5, not_false_eq_true, not_true_eq_false, and_self, and_true, true_and, and_false, false_and, ↓reduceIte]; rfl) | (simp [asF, asT, bI, zjN, c3, c4, c5]; done) | rfl⟩)
  · refine v_eqi 0 (bI_f c3) ?_
    refine v_if_ne C 18 dX4_as_13 (by decide) (fun h => absurd h (by decide)) (fun _ => ?_)
    refine v_iconst C (-1) dX4_as_16 (by decide) ?_
    exact v_reti C hA dX4_as_17 rfl (⟨by first | (simp only [asF, asT, bI, c3, not_false_eq_true, not_true_eq_false, and_self, and_true, true_and, and_false, false_and, ↓reduceIte]; done) | (simp only [asF, asT, bI, c3, not_false_eq_true, not_true_eq_false, and_self, and_true, true_and, and_false, false_and, ↓reduceIte]; rfl) | (simp [asF, asT, bI, c3]; done) | rfl, by first | (simp only [asF, asT, bI, c3, not_false_eq_true, not_true_eq_false, and_self, and_true, true_and, and_false, false_and, ↓reduceIte]; done) | (simp only [asF, asT, bI, c3, not_false_eq_true, not_true_eq_false, and_self, and_true, true_and, and_false, false_and, ↓reduceIte]; rfl) | (simp [asF, asT, bI, c3]; done) | rfl⟩)
set_option maxHeartbeats 4000000 in
set_option maxRecDepth 100000 in
theorem m_X4_most {l : Launch} {D : va_G} {cI cB cS : ClassId} (a : Nat → Nat) (nj nc wl s0 st nr : Nat) (dn : Nat → Nat) (tr : Int32) (fa : Int32) (bo : Nat → Int32) (ln : Int32) (lw : Int32) (ss : Int32) (sx : Int32) (un : Int32) (en : Int32) (se : Int32) (tk : Nat → Int32) (od : Nat → Int32) (ve : Nat → Int32) (vd : Nat → Int32) (si : Int32) (kd : Nat → Int32) (ag : Nat → Int32) (de : Nat → Int32) (ta : Nat → Int32) (we : Nat → Int32) (rC : Nat → Int32) (rH : Nat → Int32) (k : Int32) (hnj : nj ≤ 5) (hnc : nc ≤ 5) (hlw : wl < 64) (hs0 : s0 < 2 ^ nj) (hst2 : st < 2 ^ nj) (hp5 : 2 ^ nj ≤ 32) (hnr : nr ≤ 8) (hde : ∀ c, c < nc → de c = nI (dn c) ∧ dn c < 6) (hwe : ∀ c, c < nc → 0 ≤ (we c).toInt ∧ (we c).toInt ≤ 9) : Mi l yX4_most cX4_most 2 (some .int) 6 145 D cI cB cS [.ref (a 0), .int k] [oC a tr fa, ia (a 5) cI 5 bo, oT a ln lw ss sx un en se, ia (a 31) cI 5 tk, ia (a 32) cI 5 od, ia (a 33) cI 5 ve, ia (a 34) cI 6 vd, oK a si (nI nj) (nI nc) (nI wl) (nI s0) (nI st) (nI nr), ia (a 20) cI 5 kd, ia (a 21) cI 5 ag, ia (a 22) cI 5 de, ia (a 23) cI 5 ta, ia (a 24) cI 5 we, ia (a 25) cI 8 rC, ia (a 26) cI 8 rH] (fun r w => ∃ (ln' : Int32) (lw' : Int32) (ss' : Int32) (sx' : Int32) (un' : Int32) (en' : Int32) (se' : Int32) (tk' : Nat → Int32) (od' : Nat → Int32) (ve' : Nat → Int32) (vd' : Nat → Int32) (bo' : Nat → Int32), r = hoF (fun k => (sitS nj kd ag st wl dn ta we si s0 (prm nc k) nc).2.2.2.2.1) nc 1 k ∧ w = [oC a tr fa, ia (a 5) cI 5 bo', oT a ln' lw' ss' sx' un' en' se', ia (a 31) cI 5 tk', ia (a 32) cI 5 od', ia (a 33) cI 5 ve', ia (a 34) cI 6 vd', oK a si (nI nj) (nI nc) (nI wl) (nI s0) (nI st) (nI nr), ia (a 20) cI 5 kd, ia (a 21) cI 5 ag, ia (a 22) cI 5 de, ia (a 23) cI 5 ta, ia (a 24) cI 5 we, ia (a 25) cI 8 rC, ia (a 26) cI 8 rH]) := by
  refine Mi.of (by decide) (Nat.le_of_ble_eq_true rfl) ?_
  intro zp ze zs zm zb zt zc zz zA hA C hnm
  refine v_lv0 [(0, .ref (a 0)), (1, .int k)] rfl ?_
  refine v_aload_n C dX4_most_0 0 rfl ?_
  refine v_iload_n C dX4_most_1 1 rfl ?_
  refine v_iconst C 1 dX4_most_2 (by decide) ?_
  refine v_callMi C l_X4_142 (m_X4_byOrderOfHighest a s0 st wl nj nc dn tr fa bo ln lw ss sx un en se tk od ve vd si (nI nr) kd ag de ta we k 1 (by assumption) (by omega) (by assumption) (by assumption) (by assumption) (by assumption) (by assumption) (hv1 hnc (se_bd (L := nc) hwe (fun p hp => by rw [prm_0 nc (by omega) p hp]; exact hp) hnc nc (Nat.le_refl nc)))) (by decide) dX4_most_3 [0, 1, 2, 3, 4, 5, 6, 7, 8, 9, 10, 11, 12] [13, 14] (wr := [ia (a 25) cI 8 rC, ia (a 26) cI 8 rH]) (by decide) rfl rfl (by decide) (by decide) 0 rfl rfl rfl (rest := []) rfl (Nat.le_of_ble_eq_true rfl) (by decide) (fun r3 w1 h2 => ?_)
  obtain ⟨ln'_4, lw'_5, ss'_6, sx'_7, un'_8, en'_9, se'_10, tk'_11, od'_12, ve'_13, vd'_14, bo'_15, rfl, rfl⟩ := h2
  refine v_ws0 [ia (a 25) cI 8 rC, ia (a 26) cI 8 rH, oC a tr fa, ia (a 5) cI 5 bo'_15, oT a ln'_4 lw'_5 ss'_6 sx'_7 un'_8 en'_9 se'_10, ia (a 31) cI 5 tk'_11, ia (a 32) cI 5 od'_12, ia (a 33) cI 5 ve'_13, ia (a 34) cI 6 vd'_14, oK a si (nI nj) (nI nc) (nI wl) (nI s0) (nI st) (nI nr), ia (a 20) cI 5 kd, ia (a 21) cI 5 ag, ia (a 22) cI 5 de, ia (a 23) cI 5 ta, ia (a 24) cI 5 we] rfl ?_
  refine v_perm (ws' := [oC a tr fa, ia (a 5) cI 5 bo'_15, oT a ln'_4 lw'_5 ss'_6 sx'_7 un'_8 en'_9 se'_10, ia (a 31) cI 5 tk'_11, ia (a 32) cI 5 od'_12, ia (a 33) cI 5 ve'_13, ia (a 34) cI 6 vd'_14, oK a si (nI nj) (nI nc) (nI wl) (nI s0) (nI st) (nI nr), ia (a 20) cI 5 kd, ia (a 21) cI 5 ag, ia (a 22) cI 5 de, ia (a 23) cI 5 ta, ia (a 24) cI 5 we, ia (a 25) cI 8 rC, ia (a 26) cI 8 rH]) [2, 3, 4, 5, 6, 7, 8, 9, 10, 11, 12, 13, 14, 0, 1] (by decide) rfl ?_
  exact v_reti C hA dX4_most_6 rfl (⟨_, _, _, _, _, _, _, _, _, _, _, _, by first | (simp only [id, bI, not_false_eq_true, not_true_eq_false, and_self, and_true, true_and, and_false, false_and, ↓reduceIte]; done) | (simp only [id, bI, not_false_eq_true, not_true_eq_false, and_self, and_true, true_and, and_false, false_and, ↓reduceIte]; rfl) | (simp [id, bI, ]; done) | rfl, by first | (simp only [id, bI, not_false_eq_true, not_true_eq_false, and_self, and_true, true_and, and_false, false_and, ↓reduceIte]; done) | (simp only [id, bI, not_false_eq_true, not_true_eq_false, and_self, and_true, true_and, and_false, false_and, ↓reduceIte]; rfl) | (simp [id, bI, ]; done) | rfl⟩)
set_option maxHeartbeats 4000000 in
set_option maxRecDepth 100000 in
theorem m_X4_delay {l : Launch} {D : va_G} {cI cB cS : ClassId} (a : Nat → Nat) (nj nc wl s0 st nr : Nat) (dn : Nat → Nat) (tr : Int32) (fa : Int32) (bo : Nat → Int32) (ln : Int32) (lw : Int32) (ss : Int32) (sx : Int32) (un : Int32) (en : Int32) (se : Int32) (tk : Nat → Int32) (od : Nat → Int32) (ve : Nat → Int32) (vd : Nat → Int32) (si : Int32) (kd : Nat → Int32) (ag : Nat → Int32) (de : Nat → Int32) (ta : Nat → Int32) (we : Nat → Int32) (rC : Nat → Int32) (rH : Nat → Int32) (k : Int32) (hnj : nj ≤ 5) (hnc : nc ≤ 5) (hlw : wl < 64) (hs0 : s0 < 2 ^ nj) (hst2 : st < 2 ^ nj) (hp5 : 2 ^ nj ≤ 32) (hnr : nr ≤ 8) (hde : ∀ c, c < nc → de c = nI (dn c) ∧ dn c < 6) (hwe : ∀ c, c < nc → 0 ≤ (we c).toInt ∧ (we c).toInt ≤ 9) : Mi l yX4_delay cX4_delay 2 (some .int) 6 145 D cI cB cS [.ref (a 0), .int k] [oC a tr fa, ia (a 5) cI 5 bo, oT a ln lw ss sx un en se, ia (a 31) cI 5 tk, ia (a 32) cI 5 od, ia (a 33) cI 5 ve, ia (a 34) cI 6 vd, oK a si (nI nj) (nI nc) (nI wl) (nI s0) (nI st) (nI nr), ia (a 20) cI 5 kd, ia (a 21) cI 5 ag, ia (a 22) cI 5 de, ia (a 23) cI 5 ta, ia (a 24) cI 5 we, ia (a 25) cI 8 rC, ia (a 26) cI 8 rH] (fun r w => ∃ (ln' : Int32) (lw' : Int32) (ss' : Int32) (sx' : Int32) (un' : Int32) (en' : Int32) (se' : Int32) (tk' : Nat → Int32) (od' : Nat → Int32) (ve' : Nat → Int32) (vd' : Nat → Int32) (bo' : Nat → Int32), r = hoF (fun k => (sitS nj kd ag st wl dn ta we si s0 (prm nc k) nc).2.2.2.2.1) nc (-1) k ∧ w = [oC a tr fa, ia (a 5) cI 5 bo', oT a ln' lw' ss' sx' un' en' se', ia (a 31) cI 5 tk', ia (a 32) cI 5 od', ia (a 33) cI 5 ve', ia (a 34) cI 6 vd', oK a si (nI nj) (nI nc) (nI wl) (nI s0) (nI st) (nI nr), ia (a 20) cI 5 kd, ia (a 21) cI 5 ag, ia (a 22) cI 5 de, ia (a 23) cI 5 ta, ia (a 24) cI 5 we, ia (a 25) cI 8 rC, ia (a 26) cI 8 rH]) := by
  refine Mi.of (by decide) (Nat.le_of_ble_eq_true rfl) ?_
  intro zp ze zs zm zb zt zc zz zA hA C hnm
  refine v_lv0 [(0, .ref (a 0)), (1, .int k)] rfl ?_
  refine v_aload_n C dX4_delay_0 0 rfl ?_
  refine v_iload_n C dX4_delay_1 1 rfl ?_
  refine v_iconst C (-1) dX4_delay_2 (by decide) ?_
  refine v_callMi C l_X4_142 (m_X4_byOrderOfHighest a s0 st wl nj nc dn tr fa bo ln lw ss sx un en se tk od ve vd si (nI nr) kd ag de ta we k (-1) (by assumption) (by omega) (by assumption) (by assumption) (by assumption) (by assumption) (by assumption) (hv2 hnc (se_bd (L := nc) hwe (fun p hp => by rw [prm_0 nc (by omega) p hp]; exact hp) hnc nc (Nat.le_refl nc)))) (by decide) dX4_delay_3 [0, 1, 2, 3, 4, 5, 6, 7, 8, 9, 10, 11, 12] [13, 14] (wr := [ia (a 25) cI 8 rC, ia (a 26) cI 8 rH]) (by decide) rfl rfl (by decide) (by decide) 0 rfl rfl rfl (rest := []) rfl (Nat.le_of_ble_eq_true rfl) (by decide) (fun r3 w1 h2 => ?_)
  obtain ⟨ln'_4, lw'_5, ss'_6, sx'_7, un'_8, en'_9, se'_10, tk'_11, od'_12, ve'_13, vd'_14, bo'_15, rfl, rfl⟩ := h2
  refine v_ws0 [ia (a 25) cI 8 rC, ia (a 26) cI 8 rH, oC a tr fa, ia (a 5) cI 5 bo'_15, oT a ln'_4 lw'_5 ss'_6 sx'_7 un'_8 en'_9 se'_10, ia (a 31) cI 5 tk'_11, ia (a 32) cI 5 od'_12, ia (a 33) cI 5 ve'_13, ia (a 34) cI 6 vd'_14, oK a si (nI nj) (nI nc) (nI wl) (nI s0) (nI st) (nI nr), ia (a 20) cI 5 kd, ia (a 21) cI 5 ag, ia (a 22) cI 5 de, ia (a 23) cI 5 ta, ia (a 24) cI 5 we] rfl ?_
  refine v_perm (ws' := [oC a tr fa, ia (a 5) cI 5 bo'_15, oT a ln'_4 lw'_5 ss'_6 sx'_7 un'_8 en'_9 se'_10, ia (a 31) cI 5 tk'_11, ia (a 32) cI 5 od'_12, ia (a 33) cI 5 ve'_13, ia (a 34) cI 6 vd'_14, oK a si (nI nj) (nI nc) (nI wl) (nI s0) (nI st) (nI nr), ia (a 20) cI 5 kd, ia (a 21) cI 5 ag, ia (a 22) cI 5 de, ia (a 23) cI 5 ta, ia (a 24) cI 5 we, ia (a 25) cI 8 rC, ia (a 26) cI 8 rH]) [2, 3, 4, 5, 6, 7, 8, 9, 10, 11, 12, 13, 14, 0, 1] (by decide) rfl ?_
  exact v_reti C hA dX4_delay_6 rfl (⟨_, _, _, _, _, _, _, _, _, _, _, _, by first | (simp only [id, bI, not_false_eq_true, not_true_eq_false, and_self, and_true, true_and, and_false, false_and, ↓reduceIte]; done) | (simp only [id, bI, not_false_eq_true, not_true_eq_false, and_self, and_true, true_and, and_false, false_and, ↓reduceIte]; rfl) | (simp [id, bI, ]; done) | rfl, by first | (simp only [id, bI, not_false_eq_true, not_true_eq_false, and_self, and_true, true_and, and_false, false_and, ↓reduceIte]; done) | (simp only [id, bI, not_false_eq_true, not_true_eq_false, and_self, and_true, true_and, and_false, false_and, ↓reduceIte]; rfl) | (simp [id, bI, ]; done) | rfl⟩)
set_option maxHeartbeats 4000000 in
set_option maxRecDepth 100000 in
theorem m_X4_worth {l : Launch} {D : va_G} {cI cB cS : ClassId} (a : Nat → Nat) (nj nc wl s0 st nr : Nat) (dn : Nat → Nat) (tr : Int32) (fa : Int32) (bo : Nat → Int32) (ln : Int32) (lw : Int32) (ss : Int32) (sx : Int32) (un : Int32) (en : Int32) (se : Int32) (tk : Nat → Int32) (od : Nat → Int32) (ve : Nat → Int32) (vd : Nat → Int32) (si : Int32) (kd : Nat → Int32) (ag : Nat → Int32) (de : Nat → Int32) (ta : Nat → Int32) (we : Nat → Int32) (rC : Nat → Int32) (rH : Nat → Int32) (j : Int32) (hnj : nj ≤ 5) (hnc : nc ≤ 5) (hlw : wl < 64) (hs0 : s0 < 2 ^ nj) (hst2 : st < 2 ^ nj) (hp5 : 2 ^ nj ≤ 32) (hnr : nr ≤ 8) (hde : ∀ c, c < nc → de c = nI (dn c) ∧ dn c < 6) : Mi l yX4_worth cX4_worth 4 (some .int) 5 119 D cI cB cS [.ref (a 0), .int j] [oC a tr fa, ia (a 5) cI 5 bo, oT a ln lw ss sx un en se, ia (a 31) cI 5 tk, ia (a 32) cI 5 od, ia (a 33) cI 5 ve, ia (a 34) cI 6 vd, oK a si (nI nj) (nI nc) (nI wl) (nI s0) (nI st) (nI nr), ia (a 20) cI 5 kd, ia (a 21) cI 5 ag, ia (a 22) cI 5 de, ia (a 23) cI 5 ta, ia (a 24) cI 5 we, ia (a 25) cI 8 rC, ia (a 26) cI 8 rH] (fun r w => ∃ (ln' : Int32) (lw' : Int32) (ss' : Int32) (sx' : Int32) (un' : Int32) (en' : Int32) (se' : Int32) (tk' : Nat → Int32) (od' : Nat → Int32) (ve' : Nat → Int32) (vd' : Nat → Int32) (bo' : Nat → Int32), r = woF nj (fun y => (sitS nj kd ag y wl dn ta we si s0 (fun p => p) nc).2.2.2.2.1) st j ∧ w = [oC a tr fa, ia (a 5) cI 5 bo', oT a ln' lw' ss' sx' un' en' se', ia (a 31) cI 5 tk', ia (a 32) cI 5 od', ia (a 33) cI 5 ve', ia (a 34) cI 6 vd', oK a si (nI nj) (nI nc) (nI wl) (nI s0) (nI st) (nI nr), ia (a 20) cI 5 kd, ia (a 21) cI 5 ag, ia (a 22) cI 5 de, ia (a 23) cI 5 ta, ia (a 24) cI 5 we, ia (a 25) cI 8 rC, ia (a 26) cI 8 rH]) := by
  refine Mi.of (by decide) (Nat.le_of_ble_eq_true rfl) ?_
  intro zp ze zs zm zb zt zc zz zA hA C hnm
  refine v_lv0 [(0, .ref (a 0)), (1, .int j)] rfl ?_
  refine v_aload_n C dX4_worth_0 0 rfl ?_
  refine v_get C f_X4_27 dX4_worth_1 0 rfl rfl ?_
  refine v_iload_n C dX4_worth_4 1 rfl ?_
  refine v_callRi C l_X4_75 (m_X0_isJuror a si (nI nj) (nI nc) (nI wl) (nI s0) (nI st) (nI nr) j) (by decide) dX4_worth_5 [7] rfl 7 rfl rfl rfl (rest := []) rfl (Nat.le_of_ble_eq_true rfl) (by decide) (fun r1 h2 => ?_)
  subst h2
  by_cases c3 : ¬ j < 0 ∧ ¬ (nI nj) ≤ j
  · refine v_eqi 1 (bI_t c3) ?_
    refine v_if_ne C 13 dX4_worth_8 (by decide) (fun _ => ?_) (fun h => absurd h (by decide))
    obtain ⟨jN, hjN, rfl⟩ := ix_of' (by omega) c3
    have zjN : (nI jN).toNatClampNeg = jN := nI_clamp (by omega)
    refine v_aload_n C dX4_worth_13 0 rfl ?_
    refine v_callMv C l_X4_148 (m_X4_prepareByNumbers a nc tr fa si (nI nj) (nI wl) (nI s0) (nI st) (nI nr) kd ln lw ss sx un en se tk od (by assumption)) (by decide) dX4_worth_14 [0, 7, 8, 2, 3, 4] [1, 5, 6, 9, 10, 11, 12, 13, 14] (wr := [ia (a 5) cI 5 bo, ia (a 33) cI 5 ve, ia (a 34) cI 6 vd, ia (a 21) cI 5 ag, ia (a 22) cI 5 de, ia (a 23) cI 5 ta, ia (a 24) cI 5 we, ia (a 25) cI 8 rC, ia (a 26) cI 8 rH]) (by decide) rfl rfl (by decide) (by decide) 0 rfl rfl rfl (rest := []) rfl (Nat.le_of_ble_eq_true rfl) (by decide) (fun w4 h5 => ?_)
    subst h5
    refine v_ws0 [ia (a 5) cI 5 bo, ia (a 33) cI 5 ve, ia (a 34) cI 6 vd, ia (a 21) cI 5 ag, ia (a 22) cI 5 de, ia (a 23) cI 5 ta, ia (a 24) cI 5 we, ia (a 25) cI 8 rC, ia (a 26) cI 8 rH, oC a tr fa, oK a si (nI nj) (nI nc) (nI wl) (nI s0) (nI st) (nI nr), ia (a 20) cI 5 kd, oT a (nI nc) (nI wl) (nI s0) (nI st) (nI s0) en se, ia (a 31) cI 5 kd, ia (a 32) cI 5 (tbF nI od nc)] rfl ?_
    refine v_aload_n C dX4_worth_17 0 rfl ?_
    refine v_aload_n C dX4_worth_18 0 rfl ?_
    refine v_get C f_X4_27 dX4_worth_19 9 rfl rfl ?_
    refine v_get C f_X4_91 dX4_worth_22 10 rfl rfl ?_
    refine v_callMi C l_X4_157 (m_X4_sentencedIfStruck a st s0 wl nj nc nc (fun p => p) dn tr fa (nI st) (nI s0) en se kd (tbF nI od nc) ve vd si (nI nc) (nI wl) (nI s0) (nI st) (nI nr) ag de ta we (by omega) (by assumption) (by assumption) (by assumption) (by assumption) hnc (by assumption) (fun p hp => ⟨tbF_in hp, hp⟩) (by assumption)) (by decide) dX4_worth_25 [9, 12, 13, 14, 1, 2, 10, 3, 4, 5, 6] [0, 7, 8, 11] (wr := [ia (a 5) cI 5 bo, ia (a 25) cI 8 rC, ia (a 26) cI 8 rH, ia (a 20) cI 5 kd]) (by decide) rfl rfl (by decide) (by decide) 9 rfl rfl rfl (rest := []) rfl (Nat.le_of_ble_eq_true rfl) (by decide) (fun r9 w7 h8 => ?_)
    obtain ⟨rfl, rfl⟩ := h8
    refine v_ws0 [ia (a 5) cI 5 bo, ia (a 25) cI 8 rC, ia (a 26) cI 8 rH, ia (a 20) cI 5 kd, oC a tr fa, oT a (nI nc) (nI wl) (nI s0) (nI st) (nI (sitS nj kd ag st wl dn ta we si s0 (fun p => p) nc).2.2.1) ((sitS nj kd ag st wl dn ta we si s0 (fun p => p) nc).2.2.2.1) ((sitS nj kd ag st wl dn ta we si s0 (fun p => p) nc).2.2.2.2.1), ia (a 31) cI 5 kd, ia (a 32) cI 5 (tbF nI od nc), ia (a 33) cI 5 ((sitS nj kd ag st wl dn ta we si s0 (fun p => p) nc).1), ia (a 34) cI 6 ((sitS nj kd ag st wl dn ta we si s0 (fun p => p) nc).2.1), oK a si (nI nj) (nI nc) (nI wl) (nI s0) (nI st) (nI nr), ia (a 21) cI 5 ag, ia (a 22) cI 5 de, ia (a 23) cI 5 ta, ia (a 24) cI 5 we] rfl ?_
    refine v_istore_n C [(2, .int ((sitS nj kd ag st wl dn ta we si s0 (fun p => p) nc).2.2.2.2.1)), (0, .ref (a 0)), (1, .int (nI jN))] dX4_worth_28 (by decide) rfl ?_
    refine v_aload_n C dX4_worth_29 1 rfl ?_
    refine v_aload_n C dX4_worth_30 1 rfl ?_
    refine v_get C f_X4_27 dX4_worth_31 4 rfl rfl ?_
    refine v_get C f_X4_91 dX4_worth_34 10 rfl rfl ?_
    refine v_iload_n C dX4_worth_37 2 rfl ?_
    refine v_iconst C 1 dX4_worth_38 (by decide) ?_
    refine v_callSi C l_X4_113 (m_X4_withBit st jN 1 (by omega) (by omega)) (by decide) dX4_worth_39 [] rfl rfl (rest := [.ref (a 0)]) rfl (Nat.le_of_ble_eq_true rfl) (by decide) (fun r10 h11 => ?_)
    subst h11
    refine v_eqi (nI (set1 st jN)) (rfl) ?_
    refine v_callMi C l_X4_157 (m_X4_sentencedIfStruck a (set1 st jN) s0 wl nj nc nc (fun p => p) dn tr fa (nI st) (nI (sitS nj kd ag st wl dn ta we si s0 (fun p => p) nc).2.2.1) ((sitS nj kd ag st wl dn ta we si s0 (fun p => p) nc).2.2.2.1) ((sitS nj kd ag st wl dn ta we si s0 (fun p => p) nc).2.2.2.2.1) kd (tbF nI od nc) ((sitS nj kd ag st wl dn ta we si s0 (fun p => p) nc).1) ((sitS nj kd ag st wl dn ta we si s0 (fun p => p) nc).2.1) si (nI nc) (nI wl) (nI s0) (nI st) (nI nr) ag de ta we (by have q := set1_lt nj (by omega) st hst2 jN (by omega); omega) (by assumption) (by assumption) (by assumption) (by assumption) hnc (by assumption) (fun p hp => ⟨tbF_in hp, hp⟩) (by assumption)) (by decide) dX4_worth_42 [4, 5, 6, 7, 8, 9, 10, 11, 12, 13, 14] [0, 1, 2, 3] (wr := [ia (a 5) cI 5 bo, ia (a 25) cI 8 rC, ia (a 26) cI 8 rH, ia (a 20) cI 5 kd]) (by decide) rfl rfl (by decide) (by decide) 4 rfl rfl rfl (rest := []) rfl (Nat.le_of_ble_eq_true rfl) (by decide) (fun r14 w12 h13 => ?_)
    obtain ⟨rfl, rfl⟩ := h13
    refine v_ws0 [ia (a 5) cI 5 bo, ia (a 25) cI 8 rC, ia (a 26) cI 8 rH, ia (a 20) cI 5 kd, oC a tr fa, oT a (nI nc) (nI wl) (nI s0) (nI (set1 st jN)) (nI (sitS nj kd ag (set1 st jN) wl dn ta we si s0 (fun p => p) nc).2.2.1) ((sitS nj kd ag (set1 st jN) wl dn ta we si s0 (fun p => p) nc).2.2.2.1) ((sitS nj kd ag (set1 st jN) wl dn ta we si s0 (fun p => p) nc).2.2.2.2.1), ia (a 31) cI 5 kd, ia (a 32) cI 5 (tbF nI od nc), ia (a 33) cI 5 ((sitS nj kd ag (set1 st jN) wl dn ta we si s0 (fun p => p) nc).1), ia (a 34) cI 6 ((sitS nj kd ag (set1 st jN) wl dn ta we si s0 (fun p => p) nc).2.1), oK a si (nI nj) (nI nc) (nI wl) (nI s0) (nI st) (nI nr), ia (a 21) cI 5 ag, ia (a 22) cI 5 de, ia (a 23) cI 5 ta, ia (a 24) cI 5 we] rfl ?_
    refine v_istore_n C [(3, .int ((sitS nj kd ag (set1 st jN) wl dn ta we si s0 (fun p => p) nc).2.2.2.2.1)), (2, .int ((sitS nj kd ag st wl dn ta we si s0 (fun p => p) nc).2.2.2.2.1)), (0, .ref (a 0)), (1, .int (nI jN))] dX4_worth_45 (by decide) rfl ?_
    refine v_iload_n C dX4_worth_46 1 rfl ?_
    refine v_iload_n C dX4_worth_47 0 rfl ?_
    refine v_isub C dX4_worth_48 ?_
    refine v_bipush C 100 dX4_worth_49 (by decide) ?_
    refine v_iadd C dX4_worth_51 ?_
    refine v_perm (ws' := [oC a tr fa, ia (a 5) cI 5 bo, oT a (nI nc) (nI wl) (nI s0) (nI (set1 st jN)) (nI (sitS nj kd ag (set1 st jN) wl dn ta we si s0 (fun p => p) nc).2.2.1) ((sitS nj kd ag (set1 st jN) wl dn ta we si s0 (fun p => p) nc).2.2.2.1) ((sitS nj kd ag (set1 st jN) wl dn ta we si s0 (fun p => p) nc).2.2.2.2.1), ia (a 31) cI 5 kd, ia (a 32) cI 5 (tbF nI od nc), ia (a 33) cI 5 ((sitS nj kd ag (set1 st jN) wl dn ta we si s0 (fun p => p) nc).1), ia (a 34) cI 6 ((sitS nj kd ag (set1 st jN) wl dn ta we si s0 (fun p => p) nc).2.1), oK a si (nI nj) (nI nc) (nI wl) (nI s0) (nI st) (nI nr), ia (a 20) cI 5 kd, ia (a 21) cI 5 ag, ia (a 22) cI 5 de, ia (a 23) cI 5 ta, ia (a 24) cI 5 we, ia (a 25) cI 8 rC, ia (a 26) cI 8 rH]) [4, 0, 5, 6, 7, 8, 9, 10, 3, 11, 12, 13, 14, 1, 2] (by decide) rfl ?_
    exact v_reti C hA dX4_worth_52 rfl (⟨_, _, _, _, _, _, _, _, _, _, _, _, by first | (simp only [woF, bI, zjN, c3, not_false_eq_true, not_true_eq_false, and_self, and_true, true_and, and_false, false_and, ↓reduceIte]; done) | (simp only [woF, bI, zjN, c3, not_false_eq_true, not_true_eq_false, and_self, and_true, true_and, and_false, false_and, ↓reduceIte]; rfl) | (simp [woF, bI, zjN, c3]; done) | rfl, by first | (simp only [woF, bI, zjN, c3, not_false_eq_true, not_true_eq_false, and_self, and_true, true_and, and_false, false_and, ↓reduceIte]; done) | (simp only [woF, bI, zjN, c3, not_false_eq_true, not_true_eq_false, and_self, and_true, true_and, and_false, false_and, ↓reduceIte]; rfl) | (simp [woF, bI, zjN, c3]; done) | rfl⟩)
  · refine v_eqi 0 (bI_f c3) ?_
    refine v_if_ne C 13 dX4_worth_8 (by decide) (fun h => absurd h (by decide)) (fun _ => ?_)
    refine v_iconst C (-1) dX4_worth_11 (by decide) ?_
    exact v_reti C hA dX4_worth_12 rfl (⟨_, _, _, _, _, _, _, _, _, _, _, _, by first | (simp only [woF, bI, c3, not_false_eq_true, not_true_eq_false, and_self, and_true, true_and, and_false, false_and, ↓reduceIte]; done) | (simp only [woF, bI, c3, not_false_eq_true, not_true_eq_false, and_self, and_true, true_and, and_false, false_and, ↓reduceIte]; rfl) | (simp [woF, bI, c3]; done) | rfl, by first | (simp only [woF, bI, c3, not_false_eq_true, not_true_eq_false, and_self, and_true, true_and, and_false, false_and, ↓reduceIte]; done) | (simp only [woF, bI, c3, not_false_eq_true, not_true_eq_false, and_self, and_true, true_and, and_false, false_and, ↓reduceIte]; rfl) | (simp [woF, bI, c3]; done) | rfl⟩)
set_option maxHeartbeats 4000000 in
set_option maxRecDepth 100000 in
theorem m_X4_strikes {l : Launch} {D : va_G} {cI cB cS : ClassId} (a : Nat → Nat) (nj nc wl s0 st nr : Nat) (dn : Nat → Nat) (tr : Int32) (fa : Int32) (bo : Nat → Int32) (ln : Int32) (lw : Int32) (ss : Int32) (sx : Int32) (un : Int32) (en : Int32) (se : Int32) (tk : Nat → Int32) (od : Nat → Int32) (ve : Nat → Int32) (vd : Nat → Int32) (si : Int32) (kd : Nat → Int32) (ag : Nat → Int32) (de : Nat → Int32) (ta : Nat → Int32) (we : Nat → Int32) (rC : Nat → Int32) (rH : Nat → Int32) (x : Int32) (hnj : nj ≤ 5) (hnc : nc ≤ 5) (hlw : wl < 64) (hs0 : s0 < 2 ^ nj) (hst2 : st < 2 ^ nj) (hp5 : 2 ^ nj ≤ 32) (hnr : nr ≤ 8) (hde : ∀ c, c < nc → de c = nI (dn c) ∧ dn c < 6) : Mi l yX4_strikes cX4_strikes 6 (some .int) 6 142 D cI cB cS [.ref (a 0), .int x] [oC a tr fa, ia (a 5) cI 5 bo, oT a ln lw ss sx un en se, ia (a 31) cI 5 tk, ia (a 32) cI 5 od, ia (a 33) cI 5 ve, ia (a 34) cI 6 vd, oK a si (nI nj) (nI nc) (nI wl) (nI s0) (nI st) (nI nr), ia (a 20) cI 5 kd, ia (a 21) cI 5 ag, ia (a 22) cI 5 de, ia (a 23) cI 5 ta, ia (a 24) cI 5 we, ia (a 25) cI 8 rC, ia (a 26) cI 8 rH] (fun r w => ∃ (ln' : Int32) (lw' : Int32) (ss' : Int32) (sx' : Int32) (un' : Int32) (en' : Int32) (se' : Int32) (tk' : Nat → Int32) (od' : Nat → Int32) (ve' : Nat → Int32) (vd' : Nat → Int32) (bo' : Nat → Int32), r = skF nj nc (fun y => (sitS nj kd ag y wl dn ta we si s0 (fun p => p) nc).2.2.2.2.1) st x ∧ w = [oC a tr fa, ia (a 5) cI 5 bo', oT a ln' lw' ss' sx' un' en' se', ia (a 31) cI 5 tk', ia (a 32) cI 5 od', ia (a 33) cI 5 ve', ia (a 34) cI 6 vd', oK a si (nI nj) (nI nc) (nI wl) (nI s0) (nI st) (nI nr), ia (a 20) cI 5 kd, ia (a 21) cI 5 ag, ia (a 22) cI 5 de, ia (a 23) cI 5 ta, ia (a 24) cI 5 we, ia (a 25) cI 8 rC, ia (a 26) cI 8 rH]) := by
  refine Mi.of (by decide) (Nat.le_of_ble_eq_true rfl) ?_
  intro zp ze zs zm zb zt zc zz zA hA C hnm
  refine v_lv0 [(0, .ref (a 0)), (1, .int x)] rfl ?_
  refine v_iload_n C dX4_strikes_0 1 rfl ?_
  refine v_if_lt C 9 dX4_strikes_1 (by decide) (fun c1 => ?_) (fun c1 => ?_)
  · refine v_bipush C (-2) dX4_strikes_9 (by decide) ?_
    exact v_reti C hA dX4_strikes_11 rfl (⟨_, _, _, _, _, _, _, _, _, _, _, _, by first | (simp only [skF, bI, c1, not_false_eq_true, not_true_eq_false, and_self, and_true, true_and, and_false, false_and, ↓reduceIte]; done) | (simp only [skF, bI, c1, not_false_eq_true, not_true_eq_false, and_self, and_true, true_and, and_false, false_and, ↓reduceIte]; rfl) | (simp [skF, bI, c1]; done) | rfl, by first | (simp only [skF, bI, c1, not_false_eq_true, not_true_eq_false, and_self, and_true, true_and, and_false, false_and, ↓reduceIte]; done) | (simp only [skF, bI, c1, not_false_eq_true, not_true_eq_false, and_self, and_true, true_and, and_false, false_and, ↓reduceIte]; rfl) | (simp [skF, bI, c1]; done) | rfl⟩)
  · refine v_iload_n C dX4_strikes_4 1 rfl ?_
    refine v_iconst C 1 dX4_strikes_5 (by decide) ?_
    refine v_icmp_le C 12 dX4_strikes_6 (by decide) (fun c2 => ?_) (fun c2 => ?_)
    · refine v_aload_n C dX4_strikes_12 0 rfl ?_
      refine v_get C f_X4_27 dX4_strikes_13 0 rfl rfl ?_
      refine v_callRi C l_X4_106 (m_X0_stands a si (nI nj) (nI nc) (nI wl) (nI s0) (nI st) (nI nr)) (by decide) dX4_strikes_16 [7] rfl 7 rfl rfl rfl (rest := []) rfl (Nat.le_of_ble_eq_true rfl) (by decide) (fun r3 h4 => ?_)
      subst h4
      by_cases c5 : ¬ (nI nc) ≤ 0
      · refine v_eqi 1 (bI_t c5) ?_
        refine v_if_ne C 25 dX4_strikes_19 (by decide) (fun _ => ?_) (fun h => absurd h (by decide))
        refine v_aload_n C dX4_strikes_25 0 rfl ?_
        refine v_callMv C l_X4_148 (m_X4_prepareByNumbers a nc tr fa si (nI nj) (nI wl) (nI s0) (nI st) (nI nr) kd ln lw ss sx un en se tk od (by assumption)) (by decide) dX4_strikes_26 [0, 7, 8, 2, 3, 4] [1, 5, 6, 9, 10, 11, 12, 13, 14] (wr := [ia (a 5) cI 5 bo, ia (a 33) cI 5 ve, ia (a 34) cI 6 vd, ia (a 21) cI 5 ag, ia (a 22) cI 5 de, ia (a 23) cI 5 ta, ia (a 24) cI 5 we, ia (a 25) cI 8 rC, ia (a 26) cI 8 rH]) (by decide) rfl rfl (by decide) (by decide) 0 rfl rfl rfl (rest := []) rfl (Nat.le_of_ble_eq_true rfl) (by decide) (fun w6 h7 => ?_)
        subst h7
        refine v_ws0 [ia (a 5) cI 5 bo, ia (a 33) cI 5 ve, ia (a 34) cI 6 vd, ia (a 21) cI 5 ag, ia (a 22) cI 5 de, ia (a 23) cI 5 ta, ia (a 24) cI 5 we, ia (a 25) cI 8 rC, ia (a 26) cI 8 rH, oC a tr fa, oK a si (nI nj) (nI nc) (nI wl) (nI s0) (nI st) (nI nr), ia (a 20) cI 5 kd, oT a (nI nc) (nI wl) (nI s0) (nI st) (nI s0) en se, ia (a 31) cI 5 kd, ia (a 32) cI 5 (tbF nI od nc)] rfl ?_
        refine v_bipush C (-9) dX4_strikes_29 (by decide) ?_
        refine v_istore_n C [(2, .int (-9)), (0, .ref (a 0)), (1, .int x)] dX4_strikes_31 (by decide) rfl ?_
        refine v_iconst C 0 dX4_strikes_32 (by decide) ?_
        refine v_istore_n C [(3, .int 0), (2, .int (-9)), (0, .ref (a 0)), (1, .int x)] dX4_strikes_33 (by decide) rfl ?_
        refine v_iconst C 0 dX4_strikes_34 (by decide) ?_
        refine v_istore C [(4, .int 0), (3, .int 0), (2, .int (-9)), (0, .ref (a 0)), (1, .int x)] dX4_strikes_35 (by decide) rfl ?_
        refine v_perm (ws' := [oC a tr fa, ia (a 5) cI 5 bo, oT a (nI nc) (nI wl) (nI s0) (nI st) (nI s0) en se, ia (a 31) cI 5 kd, ia (a 32) cI 5 (tbF nI od nc), ia (a 33) cI 5 ve, ia (a 34) cI 6 vd, oK a si (nI nj) (nI nc) (nI wl) (nI s0) (nI st) (nI nr), ia (a 20) cI 5 kd, ia (a 21) cI 5 ag, ia (a 22) cI 5 de, ia (a 23) cI 5 ta, ia (a 24) cI 5 we, ia (a 25) cI 8 rC, ia (a 26) cI 8 rH]) [9, 0, 12, 13, 14, 1, 2, 10, 11, 3, 4, 5, 6, 7, 8] (by decide) rfl ?_
        have lp : ∀ (n_10 : Nat) (j : Nat) (his : Int32) (lea : Int32) (sx1 : Int32) (ve1 : Nat → Int32) (vd1 : Nat → Int32) (un1 : Int32) (en1 : Int32) (se1 : Int32), nj - j < n_10 → (j ≤ nj) → (skS (fun j => mbF (fun y => (sitS nj kd ag y wl dn ta we si s0 (fun p => p) nc).2.2.2.2.1) (set1 st j) nj) st j = (his, lea)) → V zp l ze (rmOf 6 142) zs zm [.ref (a 0), .int x].toArray zb zt zc D (IM zA zs) (QMi zb [.ref (a 0), .int x].toArray zs D cI cB cS [oC a tr fa, ia (a 5) cI 5 bo, oT a ln lw ss sx un en se, ia (a 31) cI 5 tk, ia (a 32) cI 5 od, ia (a 33) cI 5 ve, ia (a 34) cI 6 vd, oK a si (nI nj) (nI nc) (nI wl) (nI s0) (nI st) (nI nr), ia (a 20) cI 5 kd, ia (a 21) cI 5 ag, ia (a 22) cI 5 de, ia (a 23) cI 5 ta, ia (a 24) cI 5 we, ia (a 25) cI 8 rC, ia (a 26) cI 8 rH] zz (fun r w => ∃ (ln' : Int32) (lw' : Int32) (ss' : Int32) (sx' : Int32) (un' : Int32) (en' : Int32) (se' : Int32) (tk' : Nat → Int32) (od' : Nat → Int32) (ve' : Nat → Int32) (vd' : Nat → Int32) (bo' : Nat → Int32), r = skF nj nc (fun y => (sitS nj kd ag y wl dn ta we si s0 (fun p => p) nc).2.2.2.2.1) st x ∧ w = [oC a tr fa, ia (a 5) cI 5 bo', oT a ln' lw' ss' sx' un' en' se', ia (a 31) cI 5 tk', ia (a 32) cI 5 od', ia (a 33) cI 5 ve', ia (a 34) cI 6 vd', oK a si (nI nj) (nI nc) (nI wl) (nI s0) (nI st) (nI nr), ia (a 20) cI 5 kd, ia (a 21) cI 5 ag, ia (a 22) cI 5 de, ia (a 23) cI 5 ta, ia (a 24) cI 5 we, ia (a 25) cI 8 rC, ia (a 26) cI 8 rH])) 0 0 6 [oC a tr fa, ia (a 5) cI 5 bo, oT a (nI nc) (nI wl) (nI s0) sx1 un1 en1 se1, ia (a 31) cI 5 kd, ia (a 32) cI 5 (tbF nI od nc), ia (a 33) cI 5 ve1, ia (a 34) cI 6 vd1, oK a si (nI nj) (nI nc) (nI wl) (nI s0) (nI st) (nI nr), ia (a 20) cI 5 kd, ia (a 21) cI 5 ag, ia (a 22) cI 5 de, ia (a 23) cI 5 ta, ia (a 24) cI 5 we, ia (a 25) cI 8 rC, ia (a 26) cI 8 rH] [(4, .int (nI j)), (3, .int lea), (2, .int his), (0, .ref (a 0)), (1, .int x)] 37 [] := by
          intro n_10
          induction n_10 with
          | zero => intro j his lea sx1 ve1 vd1 un1 en1 se1 b9; exact absurd b9 (by omega)
          | succ n_10 ihn_10 =>
            intro j his lea sx1 ve1 vd1 un1 en1 se1 b9 hj hsk
            refine v_iload C dX4_strikes_37 0 rfl ?_
            refine v_aload_n C dX4_strikes_39 3 rfl ?_
            refine v_get C f_X4_27 dX4_strikes_40 0 rfl rfl ?_
            refine v_get C f_X4_151 dX4_strikes_43 7 rfl rfl ?_
            refine v_icmp_ge C 107 dX4_strikes_46 (by decide) (fun c11 => ?_) (fun c11 => ?_)
            · have nc11 : nj ≤ j := nI_leD c11 (by omega)
              have hje : j = nj := by omega
              rw [hje] at hsk
              refine v_iload_n C dX4_strikes_107 4 rfl ?_
              refine v_iconst C 1 dX4_strikes_108 (by decide) ?_
              refine v_icmp_ne C 114 dX4_strikes_109 (by decide) (fun c12 => ?_) (fun c12 => ?_)
              · refine v_iload_n C dX4_strikes_114 2 rfl ?_
                refine v_bipush C (-9) dX4_strikes_115 (by decide) ?_
                refine v_icmp_ne C 134 dX4_strikes_117 (by decide) (fun c13 => ?_) (fun c13 => ?_)
                · refine v_iload_n C dX4_strikes_134 1 rfl ?_
                  exact v_reti C hA dX4_strikes_135 rfl (⟨_, _, _, _, _, _, _, _, _, _, _, _, by first | (simp only [skF, hsk, c1, c2, c5, c11, nc11, Nat.not_lt.mpr nc11, c12, c13, not_false_eq_true, not_true_eq_false, and_self, and_true, true_and, and_false, false_and, ↓reduceIte]; done) | (simp [skF, hsk, c1, c2, c5, c11, nc11, Nat.not_lt.mpr nc11, c12, c13]; done), rfl⟩)
                · refine v_aload_n C dX4_strikes_120 3 rfl ?_
                  refine v_aload_n C dX4_strikes_121 3 rfl ?_
                  refine v_get C f_X4_27 dX4_strikes_122 0 rfl rfl ?_
                  refine v_get C f_X4_91 dX4_strikes_125 7 rfl rfl ?_
                  refine v_callMi C l_X4_157 (m_X4_sentencedIfStruck a st s0 wl nj nc nc (fun p => p) dn tr fa sx1 un1 en1 se1 kd (tbF nI od nc) ve1 vd1 si (nI nc) (nI wl) (nI s0) (nI st) (nI nr) ag de ta we (by omega) (by assumption) (by assumption) (by assumption) (by assumption) hnc (by assumption) (fun p hp => ⟨tbF_in hp, hp⟩) (by assumption)) (by decide) dX4_strikes_128 [0, 2, 3, 4, 5, 6, 7, 9, 10, 11, 12] [1, 8, 13, 14] (wr := [ia (a 5) cI 5 bo, ia (a 20) cI 5 kd, ia (a 25) cI 8 rC, ia (a 26) cI 8 rH]) (by decide) rfl rfl (by decide) (by decide) 0 rfl rfl rfl (rest := []) rfl (Nat.le_of_ble_eq_true rfl) (by decide) (fun r16 w14 h15 => ?_)
                  obtain ⟨rfl, rfl⟩ := h15
                  refine v_ws0 [ia (a 5) cI 5 bo, ia (a 20) cI 5 kd, ia (a 25) cI 8 rC, ia (a 26) cI 8 rH, oC a tr fa, oT a (nI nc) (nI wl) (nI s0) (nI st) (nI (sitS nj kd ag st wl dn ta we si s0 (fun p => p) nc).2.2.1) ((sitS nj kd ag st wl dn ta we si s0 (fun p => p) nc).2.2.2.1) ((sitS nj kd ag st wl dn ta we si s0 (fun p => p) nc).2.2.2.2.1), ia (a 31) cI 5 kd, ia (a 32) cI 5 (tbF nI od nc), ia (a 33) cI 5 ((sitS nj kd ag st wl dn ta we si s0 (fun p => p) nc).1), ia (a 34) cI 6 ((sitS nj kd ag st wl dn ta we si s0 (fun p => p) nc).2.1), oK a si (nI nj) (nI nc) (nI wl) (nI s0) (nI st) (nI nr), ia (a 21) cI 5 ag, ia (a 22) cI 5 de, ia (a 23) cI 5 ta, ia (a 24) cI 5 we] rfl ?_
                  refine v_goto C 135 dX4_strikes_131 (by decide) ?_
                  refine v_perm (ws' := [oC a tr fa, ia (a 5) cI 5 bo, oT a (nI nc) (nI wl) (nI s0) (nI st) (nI (sitS nj kd ag st wl dn ta we si s0 (fun p => p) nc).2.2.1) ((sitS nj kd ag st wl dn ta we si s0 (fun p => p) nc).2.2.2.1) ((sitS nj kd ag st wl dn ta we si s0 (fun p => p) nc).2.2.2.2.1), ia (a 31) cI 5 kd, ia (a 32) cI 5 (tbF nI od nc), ia (a 33) cI 5 ((sitS nj kd ag st wl dn ta we si s0 (fun p => p) nc).1), ia (a 34) cI 6 ((sitS nj kd ag st wl dn ta we si s0 (fun p => p) nc).2.1), oK a si (nI nj) (nI nc) (nI wl) (nI s0) (nI st) (nI nr), ia (a 20) cI 5 kd, ia (a 21) cI 5 ag, ia (a 22) cI 5 de, ia (a 23) cI 5 ta, ia (a 24) cI 5 we, ia (a 25) cI 8 rC, ia (a 26) cI 8 rH]) [4, 0, 5, 6, 7, 8, 9, 10, 1, 11, 12, 13, 14, 2, 3] (by decide) rfl ?_
                  exact v_reti C hA dX4_strikes_135 rfl (⟨_, _, _, _, _, _, _, _, _, _, _, _, by first | (simp only [skF, hsk, c1, c2, c5, c11, nc11, Nat.not_lt.mpr nc11, c12, c13, not_false_eq_true, not_true_eq_false, and_self, and_true, true_and, and_false, false_and, ↓reduceIte]; done) | (simp [skF, hsk, c1, c2, c5, c11, nc11, Nat.not_lt.mpr nc11, c12, c13]; done), rfl⟩)
              · refine v_iload_n C dX4_strikes_112 2 rfl ?_
                exact v_reti C hA dX4_strikes_113 rfl (⟨_, _, _, _, _, _, _, _, _, _, _, _, by first | (simp only [skF, hsk, c1, c2, c5, c11, nc11, Nat.not_lt.mpr nc11, c12, not_false_eq_true, not_true_eq_false, and_self, and_true, true_and, and_false, false_and, ↓reduceIte]; done) | (simp [skF, hsk, c1, c2, c5, c11, nc11, Nat.not_lt.mpr nc11, c12]; done), rfl⟩)
            · have nc11 : j < nj := nI_ltD c11 (by omega)
              refine v_aload_n C dX4_strikes_49 3 rfl ?_
              refine v_get C f_X4_27 dX4_strikes_50 0 rfl rfl ?_
              refine v_get C f_X4_91 dX4_strikes_53 7 rfl rfl ?_
              refine v_iload C dX4_strikes_56 0 rfl ?_
              refine v_callSi C l_X4_87 (m_X4_bitOf st j (by omega) (by omega)) (by decide) dX4_strikes_58 [] rfl rfl (rest := []) rfl (Nat.le_of_ble_eq_true rfl) (by decide) (fun r17 h18 => ?_)
              subst h18
              by_cases c19 : st.testBit j = true
              · refine v_eqi 1 (bI_t c19) ?_
                refine v_if_ne C 101 dX4_strikes_61 (by decide) (fun _ => ?_) (fun h => absurd h (by decide))
                refine v_iinc C (nI (j + 1)) [(4, .int (nI (j + 1))), (3, .int lea), (2, .int his), (0, .ref (a 0)), (1, .int x)] 0 dX4_strikes_101 rfl (nI_inc _) (by decide) rfl ?_
                refine v_goto C 37 dX4_strikes_104 (by decide) ?_
                exact ihn_10 (j + 1) his lea sx1 ve1 vd1 un1 en1 se1 (by omega) (by omega) (by rw [skS, hsk]; simp [c19])
              · refine v_eqi 0 (bI_f c19) ?_
                refine v_if_ne C 101 dX4_strikes_61 (by decide) (fun h => absurd h (by decide)) (fun _ => ?_)
                refine v_aload_n C dX4_strikes_64 3 rfl ?_
                refine v_aload_n C dX4_strikes_65 3 rfl ?_
                refine v_get C f_X4_27 dX4_strikes_66 0 rfl rfl ?_
                refine v_get C f_X4_91 dX4_strikes_69 7 rfl rfl ?_
                refine v_iload C dX4_strikes_72 0 rfl ?_
                refine v_iconst C 1 dX4_strikes_74 (by decide) ?_
                refine v_callSi C l_X4_113 (m_X4_withBit st j 1 (by omega) (by omega)) (by decide) dX4_strikes_75 [] rfl rfl (rest := [.ref (a 0)]) rfl (Nat.le_of_ble_eq_true rfl) (by decide) (fun r20 h21 => ?_)
                subst h21
                refine v_eqi (nI (set1 st j)) (rfl) ?_
                refine v_callMi C l_X4_154 (m_X4_mostByCourtsStrike a (set1 st j) s0 wl nj nc nc (fun p => p) dn tr fa sx1 un1 en1 se1 kd (tbF nI od nc) ve1 vd1 si (nI nc) (nI wl) (nI s0) (nI st) (nI nr) ag de ta we (set1_lt nj (by omega) st hst2 j (by omega)) (by assumption) (by assumption) (by assumption) (by assumption) hnc (by assumption) (fun p hp => ⟨tbF_in hp, hp⟩) (by assumption)) (by decide) dX4_strikes_78 [0, 2, 3, 4, 5, 6, 7, 9, 10, 11, 12] [1, 8, 13, 14] (wr := [ia (a 5) cI 5 bo, ia (a 20) cI 5 kd, ia (a 25) cI 8 rC, ia (a 26) cI 8 rH]) (by decide) rfl rfl (by decide) (by decide) 0 rfl rfl rfl (rest := []) rfl (Nat.le_of_ble_eq_true rfl) (by decide) (fun r24 w22 h23 => ?_)
                obtain ⟨sx'_25, ve'_26, vd'_27, un'_28, en'_29, se'_30, rfl, rfl⟩ := h23
                refine v_ws0 [ia (a 5) cI 5 bo, ia (a 20) cI 5 kd, ia (a 25) cI 8 rC, ia (a 26) cI 8 rH, oC a tr fa, oT a (nI nc) (nI wl) (nI s0) sx'_25 un'_28 en'_29 se'_30, ia (a 31) cI 5 kd, ia (a 32) cI 5 (tbF nI od nc), ia (a 33) cI 5 ve'_26, ia (a 34) cI 6 vd'_27, oK a si (nI nj) (nI nc) (nI wl) (nI s0) (nI st) (nI nr), ia (a 21) cI 5 ag, ia (a 22) cI 5 de, ia (a 23) cI 5 ta, ia (a 24) cI 5 we] rfl ?_
                refine v_istore C [(5, .int (mbF (fun y => (sitS nj kd ag y wl dn ta we si s0 (fun p => p) nc).2.2.2.2.1) (set1 st j) nj)), (4, .int (nI j)), (3, .int lea), (2, .int his), (0, .ref (a 0)), (1, .int x)] dX4_strikes_81 (by decide) rfl ?_
                refine v_iload_n C dX4_strikes_83 3 rfl ?_
                refine v_bipush C (-9) dX4_strikes_84 (by decide) ?_
                refine v_icmp_eq C 95 dX4_strikes_86 (by decide) (fun c31 => ?_) (fun c31 => ?_)
                · refine v_iload C dX4_strikes_95 1 rfl ?_
                  refine v_istore_n C [(2, .int (nI j)), (5, .int (mbF (fun y => (sitS nj kd ag y wl dn ta we si s0 (fun p => p) nc).2.2.2.2.1) (set1 st j) nj)), (4, .int (nI j)), (3, .int lea), (0, .ref (a 0)), (1, .int x)] dX4_strikes_97 (by decide) rfl ?_
                  refine v_iload C dX4_strikes_98 1 rfl ?_
                  refine v_istore_n C [(3, .int (mbF (fun y => (sitS nj kd ag y wl dn ta we si s0 (fun p => p) nc).2.2.2.2.1) (set1 st j) nj)), (2, .int (nI j)), (5, .int (mbF (fun y => (sitS nj kd ag y wl dn ta we si s0 (fun p => p) nc).2.2.2.2.1) (set1 st j) nj)), (4, .int (nI j)), (0, .ref (a 0)), (1, .int x)] dX4_strikes_100 (by decide) rfl ?_
                  refine v_iinc C (nI (j + 1)) [(4, .int (nI (j + 1))), (3, .int (mbF (fun y => (sitS nj kd ag y wl dn ta we si s0 (fun p => p) nc).2.2.2.2.1) (set1 st j) nj)), (2, .int (nI j)), (5, .int (mbF (fun y => (sitS nj kd ag y wl dn ta we si s0 (fun p => p) nc).2.2.2.2.1) (set1 st j) nj)), (0, .ref (a 0)), (1, .int x)] 3 dX4_strikes_101 rfl (nI_inc _) (by decide) rfl ?_
                  refine v_goto C 37 dX4_strikes_104 (by decide) ?_
                  refine v_perm (ws' := [oC a tr fa, ia (a 5) cI 5 bo, oT a (nI nc) (nI wl) (nI s0) sx'_25 un'_28 en'_29 se'_30, ia (a 31) cI 5 kd, ia (a 32) cI 5 (tbF nI od nc), ia (a 33) cI 5 ve'_26, ia (a 34) cI 6 vd'_27, oK a si (nI nj) (nI nc) (nI wl) (nI s0) (nI st) (nI nr), ia (a 20) cI 5 kd, ia (a 21) cI 5 ag, ia (a 22) cI 5 de, ia (a 23) cI 5 ta, ia (a 24) cI 5 we, ia (a 25) cI 8 rC, ia (a 26) cI 8 rH]) [4, 0, 5, 6, 7, 8, 9, 10, 1, 11, 12, 13, 14, 2, 3] (by decide) rfl ?_
                  refine v_loc [0, 1, 2, 4, 5] (lv' := [(4, .int (nI (j + 1))), (3, .int (mbF (fun y => (sitS nj kd ag y wl dn ta we si s0 (fun p => p) nc).2.2.2.2.1) (set1 st j) nj)), (2, .int (nI j)), (0, .ref (a 0)), (1, .int x)]) rfl ?_
                  exact ihn_10 (j + 1) (nI j) (mbF (fun y => (sitS nj kd ag y wl dn ta we si s0 (fun p => p) nc).2.2.2.2.1) (set1 st j) nj) sx'_25 ve'_26 vd'_27 un'_28 en'_29 se'_30 (by omega) (by omega) (by rw [skS, hsk]; simp [c19, c31])
                · refine v_iload C dX4_strikes_89 0 rfl ?_
                  refine v_iload_n C dX4_strikes_91 2 rfl ?_
                  refine v_icmp_ge C 101 dX4_strikes_92 (by decide) (fun c32 => ?_) (fun c32 => ?_)
                  · refine v_iinc C (nI (j + 1)) [(4, .int (nI (j + 1))), (5, .int (mbF (fun y => (sitS nj kd ag y wl dn ta we si s0 (fun p => p) nc).2.2.2.2.1) (set1 st j) nj)), (3, .int lea), (2, .int his), (0, .ref (a 0)), (1, .int x)] 1 dX4_strikes_101 rfl (nI_inc _) (by decide) rfl ?_
                    refine v_goto C 37 dX4_strikes_104 (by decide) ?_
                    refine v_perm (ws' := [oC a tr fa, ia (a 5) cI 5 bo, oT a (nI nc) (nI wl) (nI s0) sx'_25 un'_28 en'_29 se'_30, ia (a 31) cI 5 kd, ia (a 32) cI 5 (tbF nI od nc), ia (a 33) cI 5 ve'_26, ia (a 34) cI 6 vd'_27, oK a si (nI nj) (nI nc) (nI wl) (nI s0) (nI st) (nI nr), ia (a 20) cI 5 kd, ia (a 21) cI 5 ag, ia (a 22) cI 5 de, ia (a 23) cI 5 ta, ia (a 24) cI 5 we, ia (a 25) cI 8 rC, ia (a 26) cI 8 rH]) [4, 0, 5, 6, 7, 8, 9, 10, 1, 11, 12, 13, 14, 2, 3] (by decide) rfl ?_
                    refine v_loc [0, 2, 3, 4, 5] (lv' := [(4, .int (nI (j + 1))), (3, .int lea), (2, .int his), (0, .ref (a 0)), (1, .int x)]) rfl ?_
                    exact ihn_10 (j + 1) his lea sx'_25 ve'_26 vd'_27 un'_28 en'_29 se'_30 (by omega) (by omega) (by rw [skS, hsk]; simp [c19, c31, c32])
                  · refine v_iload C dX4_strikes_95 1 rfl ?_
                    refine v_istore_n C [(2, .int (nI j)), (5, .int (mbF (fun y => (sitS nj kd ag y wl dn ta we si s0 (fun p => p) nc).2.2.2.2.1) (set1 st j) nj)), (4, .int (nI j)), (3, .int lea), (0, .ref (a 0)), (1, .int x)] dX4_strikes_97 (by decide) rfl ?_
                    refine v_iload C dX4_strikes_98 1 rfl ?_
                    refine v_istore_n C [(3, .int (mbF (fun y => (sitS nj kd ag y wl dn ta we si s0 (fun p => p) nc).2.2.2.2.1) (set1 st j) nj)), (2, .int (nI j)), (5, .int (mbF (fun y => (sitS nj kd ag y wl dn ta we si s0 (fun p => p) nc).2.2.2.2.1) (set1 st j) nj)), (4, .int (nI j)), (0, .ref (a 0)), (1, .int x)] dX4_strikes_100 (by decide) rfl ?_
                    refine v_iinc C (nI (j + 1)) [(4, .int (nI (j + 1))), (3, .int (mbF (fun y => (sitS nj kd ag y wl dn ta we si s0 (fun p => p) nc).2.2.2.2.1) (set1 st j) nj)), (2, .int (nI j)), (5, .int (mbF (fun y => (sitS nj kd ag y wl dn ta we si s0 (fun p => p) nc).2.2.2.2.1) (set1 st j) nj)), (0, .ref (a 0)), (1, .int x)] 3 dX4_strikes_101 rfl (nI_inc _) (by decide) rfl ?_
                    refine v_goto C 37 dX4_strikes_104 (by decide) ?_
                    refine v_perm (ws' := [oC a tr fa, ia (a 5) cI 5 bo, oT a (nI nc) (nI wl) (nI s0) sx'_25 un'_28 en'_29 se'_30, ia (a 31) cI 5 kd, ia (a 32) cI 5 (tbF nI od nc), ia (a 33) cI 5 ve'_26, ia (a 34) cI 6 vd'_27, oK a si (nI nj) (nI nc) (nI wl) (nI s0) (nI st) (nI nr), ia (a 20) cI 5 kd, ia (a 21) cI 5 ag, ia (a 22) cI 5 de, ia (a 23) cI 5 ta, ia (a 24) cI 5 we, ia (a 25) cI 8 rC, ia (a 26) cI 8 rH]) [4, 0, 5, 6, 7, 8, 9, 10, 1, 11, 12, 13, 14, 2, 3] (by decide) rfl ?_
                    refine v_loc [0, 1, 2, 4, 5] (lv' := [(4, .int (nI (j + 1))), (3, .int (mbF (fun y => (sitS nj kd ag y wl dn ta we si s0 (fun p => p) nc).2.2.2.2.1) (set1 st j) nj)), (2, .int (nI j)), (0, .ref (a 0)), (1, .int x)]) rfl ?_
                    exact ihn_10 (j + 1) (nI j) (mbF (fun y => (sitS nj kd ag y wl dn ta we si s0 (fun p => p) nc).2.2.2.2.1) (set1 st j) nj) sx'_25 ve'_26 vd'_27 un'_28 en'_29 se'_30 (by omega) (by omega) (by rw [skS, hsk]; simp [c19, c31, c32])
        exact lp (nj - 0 + 1) 0 (-9) 0 (nI st) ve vd (nI s0) en se (by omega) (by omega) rfl
      · refine v_eqi 0 (bI_f c5) ?_
        refine v_if_ne C 25 dX4_strikes_19 (by decide) (fun h => absurd h (by decide)) (fun _ => ?_)
        refine v_bipush C (-3) dX4_strikes_22 (by decide) ?_
        exact v_reti C hA dX4_strikes_24 rfl (⟨_, _, _, _, _, _, _, _, _, _, _, _, by first | (simp only [skF, bI, c1, c2, Classical.not_not.mp c5, not_false_eq_true, not_true_eq_false, and_self, and_true, true_and, and_false, false_and, ↓reduceIte]; done) | (simp only [skF, bI, c1, c2, Classical.not_not.mp c5, not_false_eq_true, not_true_eq_false, and_self, and_true, true_and, and_false, false_and, ↓reduceIte]; rfl) | (simp [skF, bI, c1, c2, Classical.not_not.mp c5]; done) | rfl, by first | (simp only [skF, bI, c1, c2, Classical.not_not.mp c5, not_false_eq_true, not_true_eq_false, and_self, and_true, true_and, and_false, false_and, ↓reduceIte]; done) | (simp only [skF, bI, c1, c2, Classical.not_not.mp c5, not_false_eq_true, not_true_eq_false, and_self, and_true, true_and, and_false, false_and, ↓reduceIte]; rfl) | (simp [skF, bI, c1, c2, Classical.not_not.mp c5]; done) | rfl⟩)
    · refine v_bipush C (-2) dX4_strikes_9 (by decide) ?_
      exact v_reti C hA dX4_strikes_11 rfl (⟨_, _, _, _, _, _, _, _, _, _, _, _, by first | (simp only [skF, bI, c1, c2, not_false_eq_true, not_true_eq_false, and_self, and_true, true_and, and_false, false_and, ↓reduceIte]; done) | (simp only [skF, bI, c1, c2, not_false_eq_true, not_true_eq_false, and_self, and_true, true_and, and_false, false_and, ↓reduceIte]; rfl) | (simp [skF, bI, c1, c2]; done) | rfl, by first | (simp only [skF, bI, c1, c2, not_false_eq_true, not_true_eq_false, and_self, and_true, true_and, and_false, false_and, ↓reduceIte]; done) | (simp only [skF, bI, c1, c2, not_false_eq_true, not_true_eq_false, and_self, and_true, true_and, and_false, false_and, ↓reduceIte]; rfl) | (simp [skF, bI, c1, c2]; done) | rfl⟩)
