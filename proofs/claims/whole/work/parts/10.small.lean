def vSb (q : Int32) : Bool := !decide (q < 0) && !decide (4 ≤ q)
def vLb (q : Int32) : Bool := !decide (q < 0) && !decide (2 < q)
def hcb (lg i n : Int32) : Bool := !decide (i < 0) && (!decide (n < 0) && (!decide (lg < i) && !decide (lg - i < n)))
theorem vSb_iff (q : Int32) : vSb q = true ↔ ¬ q < 0 ∧ ¬ 4 ≤ q := by simp [vSb]
theorem vLb_iff (q : Int32) : vLb q = true ↔ ¬ q < 0 ∧ ¬ 2 < q := by simp [vLb]
theorem hcb_iff (lg i n : Int32) : hcb lg i n = true ↔ ¬ i < 0 ∧ ¬ n < 0 ∧ ¬ lg < i ∧ ¬ lg - i < n := by simp [hcb]
def cutF (la v : Int32) : Int32 := if la = 0 then v.toInt8.toInt32 else if la = 1 then v.toInt16.toInt32 else v
def folF (hs la x : Int32) : Int32 := if hs = 0 then 1 else if la = x then 0 else 2
def focF (hs la lg x i n : Int32) : Int32 := if folF hs la x = 0 then (if 0 ≤ n then (if hcb lg i n = true then 0 else 3) else 4) else folF hs la x
set_option maxHeartbeats 4000000 in
set_option maxRecDepth 100000 in
theorem m_X0_stands {l : Launch} {D : va_G} {cI cB cS : ClassId} (a : Nat → Nat) (si : Int32) (ju : Int32) (ca : Int32) (la : Int32) (sw : Int32) (sk : Int32) (rd : Int32) : Ri l yX0_stands cX0_stands 1 (some .boolean) 0 0 D cI cB cS [.ref (a 3)] [oK a si ju ca la sw sk rd] (fun r => r = bI (¬ ca ≤ 0)) := by
  refine Ri.of (by decide) (Nat.le_of_ble_eq_true rfl) ?_
  intro zp ze zs zm zb zt zc C
  refine v_lv0 [(0, .ref (a 3))] rfl ?_
  refine v_aload_n C dX0_stands_0 0 rfl ?_
  refine v_get C f_X0_33 dX0_stands_1 0 rfl rfl ?_
  refine v_if_le C 11 dX0_stands_4 (by decide) (fun c1 => ?_) (fun c1 => ?_)
  · refine v_iconst C 0 dX0_stands_11 (by decide) ?_
    exact v_retRi C dX0_stands_12 rfl (by first | (simp only [bI, *, ↓reduceIte]; done) | (simp [bI, *]; done) | (simp_all [bI]; done))
  · refine v_iconst C 1 dX0_stands_7 (by decide) ?_
    refine v_goto C 12 dX0_stands_8 (by decide) ?_
    exact v_retRi C dX0_stands_12 rfl (by first | (simp only [bI, *, ↓reduceIte]; done) | (simp [bI, *]; done) | (simp_all [bI]; done))
set_option maxHeartbeats 4000000 in
set_option maxRecDepth 100000 in
theorem m_X0_isJuror {l : Launch} {D : va_G} {cI cB cS : ClassId} (a : Nat → Nat) (si : Int32) (ju : Int32) (ca : Int32) (la : Int32) (sw : Int32) (sk : Int32) (rd : Int32) (j : Int32) : Ri l yX0_isJuror cX0_isJuror 2 (some .boolean) 0 0 D cI cB cS [.ref (a 3), .int j] [oK a si ju ca la sw sk rd] (fun r => r = bI (¬ j < 0 ∧ ¬ ju ≤ j)) := by
  refine Ri.of (by decide) (Nat.le_of_ble_eq_true rfl) ?_
  intro zp ze zs zm zb zt zc C
  refine v_lv0 [(0, .ref (a 3)), (1, .int j)] rfl ?_
  refine v_iload_n C dX0_isJuror_0 1 rfl ?_
  refine v_if_lt C 16 dX0_isJuror_1 (by decide) (fun c1 => ?_) (fun c1 => ?_)
  · refine v_iconst C 0 dX0_isJuror_16 (by decide) ?_
    exact v_retRi C dX0_isJuror_17 rfl (by first | (simp only [bI, *, ↓reduceIte]; done) | (simp [bI, *]; done) | (simp_all [bI]; done))
  · refine v_iload_n C dX0_isJuror_4 1 rfl ?_
    refine v_aload_n C dX0_isJuror_5 0 rfl ?_
    refine v_get C f_X0_37 dX0_isJuror_6 0 rfl rfl ?_
    refine v_icmp_ge C 16 dX0_isJuror_9 (by decide) (fun c2 => ?_) (fun c2 => ?_)
    · refine v_iconst C 0 dX0_isJuror_16 (by decide) ?_
      exact v_retRi C dX0_isJuror_17 rfl (by first | (simp only [bI, *, ↓reduceIte]; done) | (simp [bI, *]; done) | (simp_all [bI]; done))
    · refine v_iconst C 1 dX0_isJuror_12 (by decide) ?_
      refine v_goto C 17 dX0_isJuror_13 (by decide) ?_
      exact v_retRi C dX0_isJuror_17 rfl (by first | (simp only [bI, *, ↓reduceIte]; done) | (simp [bI, *]; done) | (simp_all [bI]; done))
set_option maxHeartbeats 4000000 in
set_option maxRecDepth 100000 in
theorem m_X0_isCase {l : Launch} {D : va_G} {cI cB cS : ClassId} (a : Nat → Nat) (si : Int32) (ju : Int32) (ca : Int32) (la : Int32) (sw : Int32) (sk : Int32) (rd : Int32) (j : Int32) : Ri l yX0_isCase cX0_isCase 2 (some .boolean) 0 0 D cI cB cS [.ref (a 3), .int j] [oK a si ju ca la sw sk rd] (fun r => r = bI (¬ j < 0 ∧ ¬ ca ≤ j)) := by
  refine Ri.of (by decide) (Nat.le_of_ble_eq_true rfl) ?_
  intro zp ze zs zm zb zt zc C
  refine v_lv0 [(0, .ref (a 3)), (1, .int j)] rfl ?_
  refine v_iload_n C dX0_isCase_0 1 rfl ?_
  refine v_if_lt C 16 dX0_isCase_1 (by decide) (fun c1 => ?_) (fun c1 => ?_)
  · refine v_iconst C 0 dX0_isCase_16 (by decide) ?_
    exact v_retRi C dX0_isCase_17 rfl (by first | (simp only [bI, *, ↓reduceIte]; done) | (simp [bI, *]; done) | (simp_all [bI]; done))
  · refine v_iload_n C dX0_isCase_4 1 rfl ?_
    refine v_aload_n C dX0_isCase_5 0 rfl ?_
    refine v_get C f_X0_33 dX0_isCase_6 0 rfl rfl ?_
    refine v_icmp_ge C 16 dX0_isCase_9 (by decide) (fun c2 => ?_) (fun c2 => ?_)
    · refine v_iconst C 0 dX0_isCase_16 (by decide) ?_
      exact v_retRi C dX0_isCase_17 rfl (by first | (simp only [bI, *, ↓reduceIte]; done) | (simp [bI, *]; done) | (simp_all [bI]; done))
    · refine v_iconst C 1 dX0_isCase_12 (by decide) ?_
      refine v_goto C 17 dX0_isCase_13 (by decide) ?_
      exact v_retRi C dX0_isCase_17 rfl (by first | (simp only [bI, *, ↓reduceIte]; done) | (simp [bI, *]; done) | (simp_all [bI]; done))
set_option maxHeartbeats 4000000 in
set_option maxRecDepth 100000 in
theorem m_X1_isPlace {l : Launch} {D : va_G} {cI cB cS : ClassId} (a : Nat → Nat) (k : Nat) (hs : Int32) (sl : Int32) (sn : Int32) (i : Int32) : Ri l yX1_isPlace cX1_isPlace 2 (some .boolean) 0 0 D cI cB cS [.ref (a (10 + k)), .int i] [oS a k hs sl sn] (fun r => r = bI (¬ i < 0 ∧ ¬ sn ≤ i)) := by
  refine Ri.of (by decide) (Nat.le_of_ble_eq_true rfl) ?_
  intro zp ze zs zm zb zt zc C
  refine v_lv0 [(0, .ref (a (10 + k))), (1, .int i)] rfl ?_
  refine v_iload_n C dX1_isPlace_0 1 rfl ?_
  refine v_if_lt C 16 dX1_isPlace_1 (by decide) (fun c1 => ?_) (fun c1 => ?_)
  · refine v_iconst C 0 dX1_isPlace_16 (by decide) ?_
    exact v_retRi C dX1_isPlace_17 rfl (by first | (simp only [bI, *, ↓reduceIte]; done) | (simp [bI, *]; done) | (simp_all [bI]; done))
  · refine v_iload_n C dX1_isPlace_4 1 rfl ?_
    refine v_aload_n C dX1_isPlace_5 0 rfl ?_
    refine v_get C f_X1_29 dX1_isPlace_6 0 rfl rfl ?_
    refine v_icmp_ge C 16 dX1_isPlace_9 (by decide) (fun c2 => ?_) (fun c2 => ?_)
    · refine v_iconst C 0 dX1_isPlace_16 (by decide) ?_
      exact v_retRi C dX1_isPlace_17 rfl (by first | (simp only [bI, *, ↓reduceIte]; done) | (simp [bI, *]; done) | (simp_all [bI]; done))
    · refine v_iconst C 1 dX1_isPlace_12 (by decide) ?_
      refine v_goto C 17 dX1_isPlace_13 (by decide) ?_
      exact v_retRi C dX1_isPlace_17 rfl (by first | (simp only [bI, *, ↓reduceIte]; done) | (simp [bI, *]; done) | (simp_all [bI]; done))
set_option maxHeartbeats 4000000 in
set_option maxRecDepth 100000 in
theorem m_X1_hasCells {l : Launch} {D : va_G} {cI cB cS : ClassId} (a : Nat → Nat) (k : Nat) (hs : Int32) (sl : Int32) (sn : Int32) (i : Int32) (n : Int32) : Ri l yX1_hasCells cX1_hasCells 3 (some .boolean) 0 0 D cI cB cS [.ref (a (10 + k)), .int i, .int n] [oS a k hs sl sn] (fun r => r = bI (hcb sn i n = true)) := by
  refine Ri.of (by decide) (Nat.le_of_ble_eq_true rfl) ?_
  intro zp ze zs zm zb zt zc C
  refine v_lv0 [(0, .ref (a (10 + k))), (1, .int i), (2, .int n)] rfl ?_
  refine v_iload_n C dX1_hasCells_0 1 rfl ?_
  refine v_if_lt C 30 dX1_hasCells_1 (by decide) (fun c1 => ?_) (fun c1 => ?_)
  · refine v_iconst C 0 dX1_hasCells_30 (by decide) ?_
    exact v_retRi C dX1_hasCells_31 rfl (by first | (simp only [bI, hcb, *, ↓reduceIte]; done) | (simp [bI, hcb, *]; done) | (simp_all [bI, hcb]; done))
  · refine v_iload_n C dX1_hasCells_4 2 rfl ?_
    refine v_if_lt C 30 dX1_hasCells_5 (by decide) (fun c2 => ?_) (fun c2 => ?_)
    · refine v_iconst C 0 dX1_hasCells_30 (by decide) ?_
      exact v_retRi C dX1_hasCells_31 rfl (by first | (simp only [bI, hcb, *, ↓reduceIte]; done) | (simp [bI, hcb, *]; done) | (simp_all [bI, hcb]; done))
    · refine v_iload_n C dX1_hasCells_8 1 rfl ?_
      refine v_aload_n C dX1_hasCells_9 0 rfl ?_
      refine v_get C f_X1_29 dX1_hasCells_10 0 rfl rfl ?_
      refine v_icmp_gt C 30 dX1_hasCells_13 (by decide) (fun c3 => ?_) (fun c3 => ?_)
      · refine v_iconst C 0 dX1_hasCells_30 (by decide) ?_
        exact v_retRi C dX1_hasCells_31 rfl (by first | (simp only [bI, hcb, *, ↓reduceIte]; done) | (simp [bI, hcb, *]; done) | (simp_all [bI, hcb]; done))
      · refine v_iload_n C dX1_hasCells_16 2 rfl ?_
        refine v_aload_n C dX1_hasCells_17 0 rfl ?_
        refine v_get C f_X1_29 dX1_hasCells_18 0 rfl rfl ?_
        refine v_iload_n C dX1_hasCells_21 1 rfl ?_
        refine v_isub C dX1_hasCells_22 ?_
        refine v_icmp_gt C 30 dX1_hasCells_23 (by decide) (fun c4 => ?_) (fun c4 => ?_)
        · refine v_iconst C 0 dX1_hasCells_30 (by decide) ?_
          exact v_retRi C dX1_hasCells_31 rfl (by first | (simp only [bI, hcb, *, ↓reduceIte]; done) | (simp [bI, hcb, *]; done) | (simp_all [bI, hcb]; done))
        · refine v_iconst C 1 dX1_hasCells_26 (by decide) ?_
          refine v_goto C 31 dX1_hasCells_27 (by decide) ?_
          exact v_retRi C dX1_hasCells_31 rfl (by first | (simp only [bI, hcb, *, ↓reduceIte]; done) | (simp [bI, hcb, *]; done) | (simp_all [bI, hcb]; done))
set_option maxHeartbeats 4000000 in
set_option maxRecDepth 100000 in
theorem m_X1_cut {l : Launch} {D : va_G} {cI cB cS : ClassId} (a : Nat → Nat) (k : Nat) (hs : Int32) (sl : Int32) (sn : Int32) (v : Int32) : Ri l yX1_cut cX1_cut 2 (some .int) 0 0 D cI cB cS [.ref (a (10 + k)), .int v] [oS a k hs sl sn] (fun r => r = cutF sl v) := by
  refine Ri.of (by decide) (Nat.le_of_ble_eq_true rfl) ?_
  intro zp ze zs zm zb zt zc C
  refine v_lv0 [(0, .ref (a (10 + k))), (1, .int v)] rfl ?_
  refine v_aload_n C dX1_cut_0 0 rfl ?_
  refine v_get C f_X1_25 dX1_cut_1 0 rfl rfl ?_
  by_cases e1 : sl = 0
  · refine v_lookup C 32 dX1_cut_4 (by decide) (by rw [e1] <;> rfl) (by decide) ?_
    refine v_iload_n C dX1_cut_32 1 rfl ?_
    refine v_i2b C dX1_cut_33 ?_
    exact v_retRi C dX1_cut_34 rfl (by simp [cutF, *])
  by_cases e2 : sl = 1
  · refine v_lookup C 35 dX1_cut_4 (by decide) (by rw [e2] <;> rfl) (by decide) ?_
    refine v_iload_n C dX1_cut_35 1 rfl ?_
    refine v_i2s C dX1_cut_36 ?_
    exact v_retRi C dX1_cut_37 rfl (by simp [cutF, *])
  refine v_lookup C 38 dX1_cut_4 (by decide) (off := 34) (by rw [lv_osw e1 (by decide)]; rw [lv_osw e2 (by decide)]; rfl) (by decide) ?_
  refine v_iload_n C dX1_cut_38 1 rfl ?_
  exact v_retRi C dX1_cut_39 rfl (by simp [cutF, *])
set_option maxHeartbeats 4000000 in
set_option maxRecDepth 100000 in
theorem m_X1_faultOfLane {l : Launch} {D : va_G} {cI cB cS : ClassId} (a : Nat → Nat) (k : Nat) (hs : Int32) (sl : Int32) (sn : Int32) (x : Int32) : Ri l yX1_faultOfLane cX1_faultOfLane 2 (some .int) 0 0 D cI cB cS [.ref (a (10 + k)), .int x] [oS a k hs sl sn] (fun r => r = folF hs sl x) := by
  refine Ri.of (by decide) (Nat.le_of_ble_eq_true rfl) ?_
  intro zp ze zs zm zb zt zc C
  refine v_lv0 [(0, .ref (a (10 + k))), (1, .int x)] rfl ?_
  refine v_aload_n C dX1_faultOfLane_0 0 rfl ?_
  refine v_get C f_X1_21 dX1_faultOfLane_1 0 rfl rfl ?_
  refine v_if_ne C 9 dX1_faultOfLane_4 (by decide) (fun c1 => ?_) (fun c1 => ?_)
  · refine v_aload_n C dX1_faultOfLane_9 0 rfl ?_
    refine v_get C f_X1_25 dX1_faultOfLane_10 0 rfl rfl ?_
    refine v_iload_n C dX1_faultOfLane_13 1 rfl ?_
    refine v_icmp_ne C 21 dX1_faultOfLane_14 (by decide) (fun c2 => ?_) (fun c2 => ?_)
    · refine v_iconst C 2 dX1_faultOfLane_21 (by decide) ?_
      exact v_retRi C dX1_faultOfLane_22 rfl (by simp [folF, *])
    · refine v_iconst C 0 dX1_faultOfLane_17 (by decide) ?_
      refine v_goto C 22 dX1_faultOfLane_18 (by decide) ?_
      exact v_retRi C dX1_faultOfLane_22 rfl (by simp [folF, *])
  · refine v_iconst C 1 dX1_faultOfLane_7 (by decide) ?_
    exact v_retRi C dX1_faultOfLane_8 rfl (by simp [folF, *])
set_option maxHeartbeats 4000000 in
set_option maxRecDepth 100000 in
theorem m_X1_faultOfCells {l : Launch} {D : va_G} {cI cB cS : ClassId} (a : Nat → Nat) (k : Nat) (hs : Int32) (sl : Int32) (sn : Int32) (x : Int32) (i : Int32) (n : Int32) : Ri l yX1_faultOfCells cX1_faultOfCells 5 (some .int) 1 22 D cI cB cS [.ref (a (10 + k)), .int x, .int i, .int n] [oS a k hs sl sn] (fun r => r = focF hs sl sn x i n) := by
  refine Ri.of (by decide) (Nat.le_of_ble_eq_true rfl) ?_
  intro zp ze zs zm zb zt zc C
  refine v_lv0 [(0, .ref (a (10 + k))), (1, .int x), (2, .int i), (3, .int n)] rfl ?_
  refine v_aload_n C dX1_faultOfCells_0 0 rfl ?_
  refine v_iload_n C dX1_faultOfCells_1 1 rfl ?_
  refine v_callRi C l_X1_32 (m_X1_faultOfLane a k hs sl sn x) (by decide) dX1_faultOfCells_2 [0] rfl 0 rfl rfl rfl (rest := []) rfl (Nat.le_of_ble_eq_true rfl) (by decide) (fun r1 h2 => ?_)
  subst h2
  refine v_istore C [(4, .int (folF hs sl x)), (0, .ref (a (10 + k))), (1, .int x), (2, .int i), (3, .int n)] dX1_faultOfCells_5 (by decide) rfl ?_
  refine v_iload C dX1_faultOfCells_7 0 rfl ?_
  refine v_if_eq C 15 dX1_faultOfCells_9 (by decide) (fun c3 => ?_) (fun c3 => ?_)
  · refine v_iload_n C dX1_faultOfCells_15 4 rfl ?_
    refine v_if_ge C 21 dX1_faultOfCells_16 (by decide) (fun c4 => ?_) (fun c4 => ?_)
    · refine v_aload_n C dX1_faultOfCells_21 1 rfl ?_
      refine v_iload_n C dX1_faultOfCells_22 3 rfl ?_
      refine v_iload_n C dX1_faultOfCells_23 4 rfl ?_
      refine v_callRi C l_X1_36 (m_X1_hasCells a k hs sl sn i n) (by decide) dX1_faultOfCells_24 [0] rfl 0 rfl rfl rfl (rest := []) rfl (Nat.le_of_ble_eq_true rfl) (by decide) (fun r5 h6 => ?_)
      subst h6
      by_cases c7 : hcb sn i n = true
      · refine v_eqi 1 (bI_t c7) ?_
        refine v_if_eq C 34 dX1_faultOfCells_27 (by decide) (fun h => absurd h (by decide)) (fun _ => ?_)
        refine v_iconst C 0 dX1_faultOfCells_30 (by decide) ?_
        refine v_goto C 35 dX1_faultOfCells_31 (by decide) ?_
        exact v_retRi C dX1_faultOfCells_35 rfl (by first | (simp only [focF, *, ↓reduceIte]; done) | (simp [focF, *]; done) | (simp_all [focF]; done))
      · refine v_eqi 0 (bI_f c7) ?_
        refine v_if_eq C 34 dX1_faultOfCells_27 (by decide) (fun _ => ?_) (fun h => absurd h (by decide))
        refine v_iconst C 3 dX1_faultOfCells_34 (by decide) ?_
        exact v_retRi C dX1_faultOfCells_35 rfl (by first | (simp only [focF, *, ↓reduceIte]; done) | (simp [focF, *]; done) | (simp_all [focF]; done))
    · refine v_iconst C 4 dX1_faultOfCells_19 (by decide) ?_
      exact v_retRi C dX1_faultOfCells_20 rfl (by first | (simp only [focF, *, ↓reduceIte]; done) | (simp [focF, *]; done) | (simp_all [focF]; done))
  · refine v_iload C dX1_faultOfCells_12 0 rfl ?_
    exact v_retRi C dX1_faultOfCells_14 rfl (by first | (simp only [focF, *, ↓reduceIte]; done) | (simp [focF, *]; done) | (simp_all [focF]; done))
set_option maxHeartbeats 4000000 in
set_option maxRecDepth 100000 in
theorem m_X4_isSheet {l : Launch} {D : va_G} {cI cB cS : ClassId} (k : Int32) : Ri l yX4_isSheet cX4_isSheet 1 (some .boolean) 0 0 D cI cB cS [.int k] [] (fun r => r = bI (vSb k = true)) := by
  refine Ri.of (by decide) (Nat.le_of_ble_eq_true rfl) ?_
  intro zp ze zs zm zb zt zc C
  refine v_lv0 [(0, .int k)] rfl ?_
  refine v_iload_n C dX4_isSheet_0 0 rfl ?_
  refine v_if_lt C 13 dX4_isSheet_1 (by decide) (fun c1 => ?_) (fun c1 => ?_)
  · refine v_iconst C 0 dX4_isSheet_13 (by decide) ?_
    exact v_retRi C dX4_isSheet_14 rfl (by first | (simp only [bI, vSb, *, ↓reduceIte]; done) | (simp [bI, vSb, *]; done) | (simp_all [bI, vSb]; done))
  · refine v_iload_n C dX4_isSheet_4 0 rfl ?_
    refine v_iconst C 4 dX4_isSheet_5 (by decide) ?_
    refine v_icmp_ge C 13 dX4_isSheet_6 (by decide) (fun c2 => ?_) (fun c2 => ?_)
    · refine v_iconst C 0 dX4_isSheet_13 (by decide) ?_
      exact v_retRi C dX4_isSheet_14 rfl (by first | (simp only [bI, vSb, *, ↓reduceIte]; done) | (simp [bI, vSb, *]; done) | (simp_all [bI, vSb]; done))
    · refine v_iconst C 1 dX4_isSheet_9 (by decide) ?_
      refine v_goto C 14 dX4_isSheet_10 (by decide) ?_
      exact v_retRi C dX4_isSheet_14 rfl (by first | (simp only [bI, vSb, *, ↓reduceIte]; done) | (simp [bI, vSb, *]; done) | (simp_all [bI, vSb]; done))
set_option maxHeartbeats 4000000 in
set_option maxRecDepth 100000 in
theorem m_X4_isLane {l : Launch} {D : va_G} {cI cB cS : ClassId} (k : Int32) : Ri l yX4_isLane cX4_isLane 1 (some .boolean) 0 0 D cI cB cS [.int k] [] (fun r => r = bI (vLb k = true)) := by
  refine Ri.of (by decide) (Nat.le_of_ble_eq_true rfl) ?_
  intro zp ze zs zm zb zt zc C
  refine v_lv0 [(0, .int k)] rfl ?_
  refine v_iload_n C dX4_isLane_0 0 rfl ?_
  refine v_if_lt C 13 dX4_isLane_1 (by decide) (fun c1 => ?_) (fun c1 => ?_)
  · refine v_iconst C 0 dX4_isLane_13 (by decide) ?_
    exact v_retRi C dX4_isLane_14 rfl (by first | (simp only [bI, vLb, *, ↓reduceIte]; done) | (simp [bI, vLb, *]; done) | (simp_all [bI, vLb]; done))
  · refine v_iload_n C dX4_isLane_4 0 rfl ?_
    refine v_iconst C 2 dX4_isLane_5 (by decide) ?_
    refine v_icmp_gt C 13 dX4_isLane_6 (by decide) (fun c2 => ?_) (fun c2 => ?_)
    · refine v_iconst C 0 dX4_isLane_13 (by decide) ?_
      exact v_retRi C dX4_isLane_14 rfl (by first | (simp only [bI, vLb, *, ↓reduceIte]; done) | (simp [bI, vLb, *]; done) | (simp_all [bI, vLb]; done))
    · refine v_iconst C 1 dX4_isLane_9 (by decide) ?_
      refine v_goto C 14 dX4_isLane_10 (by decide) ?_
      exact v_retRi C dX4_isLane_14 rfl (by first | (simp only [bI, vLb, *, ↓reduceIte]; done) | (simp [bI, vLb, *]; done) | (simp_all [bI, vLb]; done))
