set_option maxHeartbeats 4000000 in
set_option maxRecDepth 100000 in
theorem m_X3_digit {l : Launch} {D : va_G} {cI cB cS : ClassId} (a : Nat → Nat) (p : Nat) (tl : Int32) (tf : Int32) (tc : Nat → Int32) (hp : p < 60) : Ri l yX3_digit cX3_digit 2 (some .int) 0 0 D cI cB cS [.ref (a 2), .int (nI p)] [oX a tl tf, ia (a 6) cI 60 tc] (fun r => r = tc p - 48) := by
  refine Ri.of (by decide) (Nat.le_of_ble_eq_true rfl) ?_
  intro zp ze zs zm zb zt zc C
  refine v_lv0 [(0, .ref (a 2)), (1, .int (nI p))] rfl ?_
  refine v_aload_n C dX3_digit_0 0 rfl ?_
  refine v_get C f_X3_9 dX3_digit_1 0 rfl rfl ?_
  refine v_iload_n C dX3_digit_4 1 rfl ?_
  refine v_ialdN C dX3_digit_5 1 rfl p rfl (by omega) (by decide) ?_
  refine v_bipush C 48 dX3_digit_6 (by decide) ?_
  refine v_isub C dX3_digit_8 ?_
  exact v_retRi C dX3_digit_9 rfl (rfl)
set_option maxHeartbeats 4000000 in
set_option maxRecDepth 100000 in
theorem m_X3_isDigit {l : Launch} {D : va_G} {cI cB cS : ClassId} (a : Nat → Nat) (p : Nat) (tl : Int32) (tf : Int32) (tc : Nat → Int32) (le : Int32) (mo : Int32) (hp : p < 60) : Ri l yX3_isDigit cX3_isDigit 4 (some .boolean) 0 0 D cI cB cS [.ref (a 2), .int (nI p), .int le, .int mo] [oX a tl tf, ia (a 6) cI 60 tc] (fun r => r = bI (dgB (tc p) le mo = true)) := by
  refine Ri.of (by decide) (Nat.le_of_ble_eq_true rfl) ?_
  intro zp ze zs zm zb zt zc C
  refine v_lv0 [(0, .ref (a 2)), (1, .int (nI p)), (2, .int le), (3, .int mo)] rfl ?_
  refine v_aload_n C dX3_isDigit_0 0 rfl ?_
  refine v_get C f_X3_9 dX3_isDigit_1 0 rfl rfl ?_
  refine v_iload_n C dX3_isDigit_4 1 rfl ?_
  refine v_ialdN C dX3_isDigit_5 1 rfl p rfl (by omega) (by decide) ?_
  refine v_bipush C 48 dX3_isDigit_6 (by decide) ?_
  refine v_iload_n C dX3_isDigit_8 2 rfl ?_
  refine v_iadd C dX3_isDigit_9 ?_
  refine v_icmp_lt C 30 dX3_isDigit_10 (by decide) (fun c1 => ?_) (fun c1 => ?_)
  · refine v_iconst C 0 dX3_isDigit_30 (by decide) ?_
    exact v_retRi C dX3_isDigit_31 rfl (by first | (simp only [bI, dgB, *, ↓reduceIte]; done) | (simp [bI, dgB, *]; done) | (simp_all [bI, dgB]; done))
  · refine v_aload_n C dX3_isDigit_13 0 rfl ?_
    refine v_get C f_X3_9 dX3_isDigit_14 0 rfl rfl ?_
    refine v_iload_n C dX3_isDigit_17 1 rfl ?_
    refine v_ialdN C dX3_isDigit_18 1 rfl p rfl (by omega) (by decide) ?_
    refine v_bipush C 48 dX3_isDigit_19 (by decide) ?_
    refine v_iload_n C dX3_isDigit_21 3 rfl ?_
    refine v_iadd C dX3_isDigit_22 ?_
    refine v_icmp_gt C 30 dX3_isDigit_23 (by decide) (fun c2 => ?_) (fun c2 => ?_)
    · refine v_iconst C 0 dX3_isDigit_30 (by decide) ?_
      exact v_retRi C dX3_isDigit_31 rfl (by first | (simp only [bI, dgB, *, ↓reduceIte]; done) | (simp [bI, dgB, *]; done) | (simp_all [bI, dgB]; done))
    · refine v_iconst C 1 dX3_isDigit_26 (by decide) ?_
      refine v_goto C 31 dX3_isDigit_27 (by decide) ?_
      exact v_retRi C dX3_isDigit_31 rfl (by first | (simp only [bI, dgB, *, ↓reduceIte]; done) | (simp [bI, dgB, *]; done) | (simp_all [bI, dgB]; done))
set_option maxHeartbeats 4000000 in
set_option maxRecDepth 100000 in
theorem m_X3_kindAt {l : Launch} {D : va_G} {cI cB cS : ClassId} (a : Nat → Nat) (p : Nat) (tl : Int32) (tf : Int32) (tc : Nat → Int32) (hp : p < 60) : Ri l yX3_kindAt cX3_kindAt 2 (some .int) 0 0 D cI cB cS [.ref (a 2), .int (nI p)] [oX a tl tf, ia (a 6) cI 60 tc] (fun r => r = kdF (tc p)) := by
  refine Ri.of (by decide) (Nat.le_of_ble_eq_true rfl) ?_
  intro zp ze zs zm zb zt zc C
  refine v_lv0 [(0, .ref (a 2)), (1, .int (nI p))] rfl ?_
  refine v_aload_n C dX3_kindAt_0 0 rfl ?_
  refine v_get C f_X3_9 dX3_kindAt_1 0 rfl rfl ?_
  refine v_iload_n C dX3_kindAt_4 1 rfl ?_
  refine v_ialdN C dX3_kindAt_5 1 rfl p rfl (by omega) (by decide) ?_
  by_cases e1 : tc p = 99
  · refine v_lookup C 40 dX3_kindAt_6 (by decide) (by rw [e1] <;> rfl) (by decide) ?_
    refine v_iconst C 0 dX3_kindAt_40 (by decide) ?_
    exact v_retRi C dX3_kindAt_41 rfl (by simp [kdF, *])
  by_cases e2 : tc p = 104
  · refine v_lookup C 42 dX3_kindAt_6 (by decide) (by rw [e2] <;> rfl) (by decide) ?_
    refine v_iconst C 1 dX3_kindAt_42 (by decide) ?_
    exact v_retRi C dX3_kindAt_43 rfl (by simp [kdF, *])
  by_cases e3 : tc p = 115
  · refine v_lookup C 44 dX3_kindAt_6 (by decide) (by rw [e3] <;> rfl) (by decide) ?_
    refine v_iconst C 2 dX3_kindAt_44 (by decide) ?_
    exact v_retRi C dX3_kindAt_45 rfl (by simp [kdF, *])
  refine v_lookup C 46 dX3_kindAt_6 (by decide) (off := 40) (by rw [lv_osw e1 (by decide)]; rw [lv_osw e2 (by decide)]; rw [lv_osw e3 (by decide)]; rfl) (by decide) ?_
  refine v_bipush C (-9) dX3_kindAt_46 (by decide) ?_
  exact v_retRi C dX3_kindAt_48 rfl (by simp [kdF, *])
set_option maxHeartbeats 4000000 in
set_option maxRecDepth 100000 in
theorem m_X3_toldMinutes {l : Launch} {D : va_G} {cI cB cS : ClassId} (a : Nat → Nat) (tl : Int32) (tf : Int32) (tc : Nat → Int32) : Ri l yX3_toldMinutes cX3_toldMinutes 1 (some .int) 1 21 D cI cB cS [.ref (a 2)] [oX a tl tf, ia (a 6) cI 60 tc] (fun r => r = tmF tc) := by
  refine Ri.of (by decide) (Nat.le_of_ble_eq_true rfl) ?_
  intro zp ze zs zm zb zt zc C
  refine v_lv0 [(0, .ref (a 2))] rfl ?_
  refine v_bipush C 10 dX3_toldMinutes_0 (by decide) ?_
  refine v_aload_n C dX3_toldMinutes_2 0 rfl ?_
  refine v_iconst C 1 dX3_toldMinutes_3 (by decide) ?_
  refine v_callRi C l_X3_62 (m_X3_digit a 1 tl tf tc (by omega)) (by decide) dX3_toldMinutes_4 [0, 1] rfl 0 rfl rfl rfl (rest := [.int 10]) rfl (Nat.le_of_ble_eq_true rfl) (by decide) (fun r1 h2 => ?_)
  subst h2
  refine v_imul C dX3_toldMinutes_7 ?_
  refine v_aload_n C dX3_toldMinutes_8 0 rfl ?_
  refine v_iconst C 2 dX3_toldMinutes_9 (by decide) ?_
  refine v_callRi C l_X3_62 (m_X3_digit a 2 tl tf tc (by omega)) (by decide) dX3_toldMinutes_10 [0, 1] rfl 0 rfl rfl rfl (rest := [.int (10 * (tc 1 - 48))]) rfl (Nat.le_of_ble_eq_true rfl) (by decide) (fun r3 h4 => ?_)
  subst h4
  refine v_iadd C dX3_toldMinutes_13 ?_
  exact v_retRi C dX3_toldMinutes_14 rfl (rfl)
set_option maxHeartbeats 4000000 in
set_option maxRecDepth 100000 in
theorem m_X3_toldJurors {l : Launch} {D : va_G} {cI cB cS : ClassId} (a : Nat → Nat) (F : Nat) (tl : Int32) (h3 : 3 ≤ F) (hF : F < 60) : Ri l yX3_toldJurors cX3_toldJurors 1 (some .int) 0 0 D cI cB cS [.ref (a 2)] [oX a tl (nI F)] (fun r => r = nI ((F - 3) / 3)) := by
  refine Ri.of (by decide) (Nat.le_of_ble_eq_true rfl) ?_
  intro zp ze zs zm zb zt zc C
  refine v_lv0 [(0, .ref (a 2))] rfl ?_
  refine v_aload_n C dX3_toldJurors_0 0 rfl ?_
  refine v_get C f_X3_30 dX3_toldJurors_1 0 rfl rfl ?_
  refine v_iconst C 3 dX3_toldJurors_4 (by decide) ?_
  refine v_isub C dX3_toldJurors_5 ?_
  refine v_eqi (nI (F - 3)) (pk_sub (by omega : 3 ≤ F)) ?_
  refine v_iconst C 3 dX3_toldJurors_6 (by decide) ?_
  refine v_idiv C dX3_toldJurors_7 (by decide) ?_
  refine v_eqi (nI ((F - 3) / 3)) (pk_div (d := 3) (by omega) (by decide) (by decide)) ?_
  exact v_retRi C dX3_toldJurors_8 rfl (rfl)
set_option maxHeartbeats 4000000 in
set_option maxRecDepth 100000 in
theorem m_X3_toldCases {l : Launch} {D : va_G} {cI cB cS : ClassId} (a : Nat → Nat) (F n : Nat) (h3 : F ≤ n) (hF : n ≤ 60) : Ri l yX3_toldCases cX3_toldCases 1 (some .int) 0 0 D cI cB cS [.ref (a 2)] [oX a (nI n) (nI F)] (fun r => r = nI ((n - F) / 4)) := by
  refine Ri.of (by decide) (Nat.le_of_ble_eq_true rfl) ?_
  intro zp ze zs zm zb zt zc C
  refine v_lv0 [(0, .ref (a 2))] rfl ?_
  refine v_aload_n C dX3_toldCases_0 0 rfl ?_
  refine v_get C f_X3_26 dX3_toldCases_1 0 rfl rfl ?_
  refine v_aload_n C dX3_toldCases_4 0 rfl ?_
  refine v_get C f_X3_30 dX3_toldCases_5 0 rfl rfl ?_
  refine v_isub C dX3_toldCases_8 ?_
  refine v_eqi (nI (n - F)) (pk_sub (by omega : F ≤ n)) ?_
  refine v_iconst C 4 dX3_toldCases_9 (by decide) ?_
  refine v_idiv C dX3_toldCases_10 (by decide) ?_
  refine v_eqi (nI ((n - F) / 4)) (pk_div (d := 4) (by omega) (by decide) (by decide)) ?_
  exact v_retRi C dX3_toldCases_11 rfl (rfl)
set_option maxHeartbeats 4000000 in
set_option maxRecDepth 100000 in
theorem m_X3_toldKind {l : Launch} {D : va_G} {cI cB cS : ClassId} (a : Nat → Nat) (j : Nat) (tl : Int32) (tf : Int32) (tc : Nat → Int32) (hj : j < 5) : Ri l yX3_toldKind cX3_toldKind 2 (some .int) 1 21 D cI cB cS [.ref (a 2), .int (nI j)] [oX a tl tf, ia (a 6) cI 60 tc] (fun r => r = kdF (tc (3 + 3 * j + 1))) := by
  refine Ri.of (by decide) (Nat.le_of_ble_eq_true rfl) ?_
  intro zp ze zs zm zb zt zc C
  refine v_lv0 [(0, .ref (a 2)), (1, .int (nI j))] rfl ?_
  refine v_aload_n C dX3_toldKind_0 0 rfl ?_
  refine v_iconst C 3 dX3_toldKind_1 (by decide) ?_
  refine v_iconst C 3 dX3_toldKind_2 (by decide) ?_
  refine v_iload_n C dX3_toldKind_3 1 rfl ?_
  refine v_imul C dX3_toldKind_4 ?_
  refine v_eqi (nI (3 * j)) (pk_mul 3 j) ?_
  refine v_iadd C dX3_toldKind_5 ?_
  refine v_eqi (nI (3 + 3 * j)) (nI_add 3 (3 * j)) ?_
  refine v_iconst C 1 dX3_toldKind_6 (by decide) ?_
  refine v_iadd C dX3_toldKind_7 ?_
  refine v_eqi (nI (3 + 3 * j + 1)) (nI_1 _) ?_
  refine v_callRi C l_X3_58 (m_X3_kindAt a (3 + 3 * j + 1) tl tf tc (by omega)) (by decide) dX3_toldKind_8 [0, 1] rfl 0 rfl rfl rfl (rest := []) rfl (Nat.le_of_ble_eq_true rfl) (by decide) (fun r1 h2 => ?_)
  subst h2
  exact v_retRi C dX3_toldKind_11 rfl (rfl)
set_option maxHeartbeats 4000000 in
set_option maxRecDepth 100000 in
theorem m_X3_toldAge {l : Launch} {D : va_G} {cI cB cS : ClassId} (a : Nat → Nat) (j : Nat) (tl : Int32) (tf : Int32) (tc : Nat → Int32) (hj : j < 5) : Ri l yX3_toldAge cX3_toldAge 2 (some .int) 1 21 D cI cB cS [.ref (a 2), .int (nI j)] [oX a tl tf, ia (a 6) cI 60 tc] (fun r => r = tc (3 + 3 * j + 2) - 48) := by
  refine Ri.of (by decide) (Nat.le_of_ble_eq_true rfl) ?_
  intro zp ze zs zm zb zt zc C
  refine v_lv0 [(0, .ref (a 2)), (1, .int (nI j))] rfl ?_
  refine v_aload_n C dX3_toldAge_0 0 rfl ?_
  refine v_iconst C 3 dX3_toldAge_1 (by decide) ?_
  refine v_iconst C 3 dX3_toldAge_2 (by decide) ?_
  refine v_iload_n C dX3_toldAge_3 1 rfl ?_
  refine v_imul C dX3_toldAge_4 ?_
  refine v_eqi (nI (3 * j)) (pk_mul 3 j) ?_
  refine v_iadd C dX3_toldAge_5 ?_
  refine v_eqi (nI (3 + 3 * j)) (nI_add 3 (3 * j)) ?_
  refine v_iconst C 2 dX3_toldAge_6 (by decide) ?_
  refine v_iadd C dX3_toldAge_7 ?_
  refine v_eqi (nI (3 + 3 * j + 2)) (nI_add _ 2) ?_
  refine v_callRi C l_X3_62 (m_X3_digit a (3 + 3 * j + 2) tl tf tc (by omega)) (by decide) dX3_toldAge_8 [0, 1] rfl 0 rfl rfl rfl (rest := []) rfl (Nat.le_of_ble_eq_true rfl) (by decide) (fun r1 h2 => ?_)
  subst h2
  exact v_retRi C dX3_toldAge_11 rfl (rfl)
set_option maxHeartbeats 4000000 in
set_option maxRecDepth 100000 in
theorem m_X3_toldOfCase {l : Launch} {D : va_G} {cI cB cS : ClassId} (a : Nat → Nat) (F c v : Nat) (tl : Int32) (tc : Nat → Int32) (hc : F + 4 * c + 1 + v < 60) : Ri l yX3_toldOfCase cX3_toldOfCase 3 (some .int) 1 21 D cI cB cS [.ref (a 2), .int (nI c), .int (nI v)] [oX a tl (nI F), ia (a 6) cI 60 tc] (fun r => r = tc (F + 4 * c + 1 + v) - 48) := by
  refine Ri.of (by decide) (Nat.le_of_ble_eq_true rfl) ?_
  intro zp ze zs zm zb zt zc C
  refine v_lv0 [(0, .ref (a 2)), (1, .int (nI c)), (2, .int (nI v))] rfl ?_
  refine v_aload_n C dX3_toldOfCase_0 0 rfl ?_
  refine v_aload_n C dX3_toldOfCase_1 0 rfl ?_
  refine v_get C f_X3_30 dX3_toldOfCase_2 0 rfl rfl ?_
  refine v_iconst C 4 dX3_toldOfCase_5 (by decide) ?_
  refine v_iload_n C dX3_toldOfCase_6 1 rfl ?_
  refine v_imul C dX3_toldOfCase_7 ?_
  refine v_eqi (nI (4 * c)) (pk_mul 4 c) ?_
  refine v_iadd C dX3_toldOfCase_8 ?_
  refine v_eqi (nI (F + 4 * c)) (nI_add F (4 * c)) ?_
  refine v_iconst C 1 dX3_toldOfCase_9 (by decide) ?_
  refine v_iadd C dX3_toldOfCase_10 ?_
  refine v_eqi (nI (F + 4 * c + 1)) (nI_1 _) ?_
  refine v_iload_n C dX3_toldOfCase_11 2 rfl ?_
  refine v_iadd C dX3_toldOfCase_12 ?_
  refine v_eqi (nI (F + 4 * c + 1 + v)) (nI_add _ v) ?_
  refine v_callRi C l_X3_62 (m_X3_digit a (F + 4 * c + 1 + v) tl (nI F) tc (by omega)) (by decide) dX3_toldOfCase_13 [0, 1] rfl 0 rfl rfl rfl (rest := []) rfl (Nat.le_of_ble_eq_true rfl) (by decide) (fun r1 h2 => ?_)
  subst h2
  exact v_retRi C dX3_toldOfCase_16 rfl (rfl)
set_option maxHeartbeats 4000000 in
set_option maxRecDepth 100000 in
theorem m_X3_goesOnInMinutes {l : Launch} {D : va_G} {cI cB cS : ClassId} (a : Nat → Nat) (p : Nat) (tl : Int32) (tf : Int32) (tc : Nat → Int32) (hp : p < 3) : Ri l yX3_goesOnInMinutes cX3_goesOnInMinutes 2 (some .boolean) 2 41 D cI cB cS [.ref (a 2), .int (nI p)] [oX a tl tf, ia (a 6) cI 60 tc] (fun r => r = bI (gmB tc p = true)) := by
  refine Ri.of (by decide) (Nat.le_of_ble_eq_true rfl) ?_
  intro zp ze zs zm zb zt zc C
  refine v_lv0 [(0, .ref (a 2)), (1, .int (nI p))] rfl ?_
  refine v_iload_n C dX3_goesOnInMinutes_0 1 rfl ?_
  refine v_iconst C 1 dX3_goesOnInMinutes_1 (by decide) ?_
  refine v_icmp_ne C 14 dX3_goesOnInMinutes_2 (by decide) (fun c1 => ?_) (fun c1 => ?_)
  · have nc1 : p ≠ 1 := fun q => c1 (by rw [q] <;> rfl)
    refine v_aload_n C dX3_goesOnInMinutes_14 0 rfl ?_
    refine v_iload_n C dX3_goesOnInMinutes_15 1 rfl ?_
    refine v_iconst C 0 dX3_goesOnInMinutes_16 (by decide) ?_
    refine v_bipush C 9 dX3_goesOnInMinutes_17 (by decide) ?_
    refine v_callRi C l_X3_50 (m_X3_isDigit a p tl tf tc 0 9 (by omega)) (by decide) dX3_goesOnInMinutes_19 [0, 1] rfl 0 rfl rfl rfl (rest := []) rfl (Nat.le_of_ble_eq_true rfl) (by decide) (fun r2 h3 => ?_)
    subst h3
    by_cases c4 : dgB (tc p) (0 : Int32) (9 : Int32) = true
    · refine v_eqi 1 (bI_t c4) ?_
      refine v_if_eq C 46 dX3_goesOnInMinutes_22 (by decide) (fun h => absurd h (by decide)) (fun _ => ?_)
      refine v_aload_n C dX3_goesOnInMinutes_25 0 rfl ?_
      refine v_callRi C l_X3_54 (m_X3_toldMinutes a tl tf tc) (by decide) dX3_goesOnInMinutes_26 [0, 1] rfl 0 rfl rfl rfl (rest := []) rfl (Nat.le_of_ble_eq_true rfl) (by decide) (fun r5 h6 => ?_)
      subst h6
      refine v_iconst C 5 dX3_goesOnInMinutes_29 (by decide) ?_
      refine v_icmp_lt C 46 dX3_goesOnInMinutes_30 (by decide) (fun c7 => ?_) (fun c7 => ?_)
      · refine v_iconst C 0 dX3_goesOnInMinutes_46 (by decide) ?_
        exact v_retRi C dX3_goesOnInMinutes_47 rfl (by first | (simp only [bI, gmB, *, ↓reduceIte]; done) | (simp [bI, gmB, *]; done) | (simp_all [bI, gmB]; done))
      · refine v_aload_n C dX3_goesOnInMinutes_33 0 rfl ?_
        refine v_callRi C l_X3_54 (m_X3_toldMinutes a tl tf tc) (by decide) dX3_goesOnInMinutes_34 [0, 1] rfl 0 rfl rfl rfl (rest := []) rfl (Nat.le_of_ble_eq_true rfl) (by decide) (fun r8 h9 => ?_)
        subst h9
        refine v_bipush C 60 dX3_goesOnInMinutes_37 (by decide) ?_
        refine v_icmp_gt C 46 dX3_goesOnInMinutes_39 (by decide) (fun c10 => ?_) (fun c10 => ?_)
        · refine v_iconst C 0 dX3_goesOnInMinutes_46 (by decide) ?_
          exact v_retRi C dX3_goesOnInMinutes_47 rfl (by first | (simp only [bI, gmB, *, ↓reduceIte]; done) | (simp [bI, gmB, *]; done) | (simp_all [bI, gmB]; done))
        · refine v_iconst C 1 dX3_goesOnInMinutes_42 (by decide) ?_
          refine v_goto C 47 dX3_goesOnInMinutes_43 (by decide) ?_
          exact v_retRi C dX3_goesOnInMinutes_47 rfl (by first | (simp only [bI, gmB, *, ↓reduceIte]; done) | (simp [bI, gmB, *]; done) | (simp_all [bI, gmB]; done))
    · refine v_eqi 0 (bI_f c4) ?_
      refine v_if_eq C 46 dX3_goesOnInMinutes_22 (by decide) (fun _ => ?_) (fun h => absurd h (by decide))
      refine v_iconst C 0 dX3_goesOnInMinutes_46 (by decide) ?_
      exact v_retRi C dX3_goesOnInMinutes_47 rfl (by first | (simp only [bI, gmB, *, ↓reduceIte]; done) | (simp [bI, gmB, *]; done) | (simp_all [bI, gmB]; done))
  · have nc1 : p = 1 := nI_eqP c1 (by omega) (by omega)
    refine v_aload_n C dX3_goesOnInMinutes_5 0 rfl ?_
    refine v_iload_n C dX3_goesOnInMinutes_6 1 rfl ?_
    refine v_iconst C 0 dX3_goesOnInMinutes_7 (by decide) ?_
    refine v_bipush C 6 dX3_goesOnInMinutes_8 (by decide) ?_
    refine v_callRi C l_X3_50 (m_X3_isDigit a p tl tf tc 0 6 (by omega)) (by decide) dX3_goesOnInMinutes_10 [0, 1] rfl 0 rfl rfl rfl (rest := []) rfl (Nat.le_of_ble_eq_true rfl) (by decide) (fun r11 h12 => ?_)
    subst h12
    by_cases c13 : dgB (tc p) (0 : Int32) (6 : Int32) = true
    · refine v_eqi 1 (bI_t c13) ?_
      exact v_retRi C dX3_goesOnInMinutes_13 rfl (by first | (simp only [bI, gmB, *, ↓reduceIte]; done) | (simp [bI, gmB, *]; done) | (simp_all [bI, gmB]; done))
    · refine v_eqi 0 (bI_f c13) ?_
      exact v_retRi C dX3_goesOnInMinutes_13 rfl (by first | (simp only [bI, gmB, *, ↓reduceIte]; done) | (simp [bI, gmB, *]; done) | (simp_all [bI, gmB]; done))
set_option maxHeartbeats 4000000 in
set_option maxRecDepth 100000 in
theorem m_X3_goesOnInJurors {l : Launch} {D : va_G} {cI cB cS : ClassId} (a : Nat → Nat) (p : Nat) (tl : Int32) (tf : Int32) (tc : Nat → Int32) (h3 : 3 ≤ p) (hp : p < 60) : Ri l yX3_goesOnInJurors cX3_goesOnInJurors 3 (some .boolean) 1 23 D cI cB cS [.ref (a 2), .int (nI p)] [oX a tl tf, ia (a 6) cI 60 tc] (fun r => r = bI (gjB tc p = true)) := by
  refine Ri.of (by decide) (Nat.le_of_ble_eq_true rfl) ?_
  intro zp ze zs zm zb zt zc C
  refine v_lv0 [(0, .ref (a 2)), (1, .int (nI p))] rfl ?_
  refine v_iload_n C dX3_goesOnInJurors_0 1 rfl ?_
  refine v_iconst C 3 dX3_goesOnInJurors_1 (by decide) ?_
  refine v_isub C dX3_goesOnInJurors_2 ?_
  refine v_eqi (nI (p - 3)) (pk_sub (by omega : 3 ≤ p)) ?_
  refine v_iconst C 3 dX3_goesOnInJurors_3 (by decide) ?_
  refine v_idiv C dX3_goesOnInJurors_4 (by decide) ?_
  refine v_eqi (nI ((p - 3) / 3)) (pk_div (d := 3) (by omega) (by decide) (by decide)) ?_
  refine v_istore_n C [(2, .int (nI ((p - 3) / 3))), (0, .ref (a 2)), (1, .int (nI p))] dX3_goesOnInJurors_5 (by decide) rfl ?_
  refine v_iload_n C dX3_goesOnInJurors_6 2 rfl ?_
  refine v_iconst C 3 dX3_goesOnInJurors_7 (by decide) ?_
  refine v_isub C dX3_goesOnInJurors_8 ?_
  refine v_eqi (nI (p - 3)) (pk_sub (by omega : 3 ≤ p)) ?_
  refine v_iconst C 3 dX3_goesOnInJurors_9 (by decide) ?_
  refine v_irem C dX3_goesOnInJurors_10 (by decide) ?_
  refine v_eqi (nI ((p - 3) % 3)) (pk_rem (d := 3) (by omega) (by decide) (by decide)) ?_
  by_cases e1 : nI ((p - 3) % 3) = 0
  · have ne1 : ((p - 3) % 3) = 0 := nI_eqP e1 (by omega) (by decide)
    refine v_lookup C 36 dX3_goesOnInJurors_11 (by decide) (by rw [e1] <;> rfl) (by decide) ?_
    refine v_aload_n C dX3_goesOnInJurors_36 1 rfl ?_
    refine v_get C f_X3_9 dX3_goesOnInJurors_37 0 rfl rfl ?_
    refine v_iload_n C dX3_goesOnInJurors_40 2 rfl ?_
    refine v_ialdN C dX3_goesOnInJurors_41 1 rfl p rfl (by omega) (by decide) ?_
    refine v_bipush C 44 dX3_goesOnInJurors_42 (by decide) ?_
    refine v_icmp_ne C 52 dX3_goesOnInJurors_44 (by decide) (fun c2 => ?_) (fun c2 => ?_)
    · refine v_aload_n C dX3_goesOnInJurors_52 1 rfl ?_
      refine v_get C f_X3_9 dX3_goesOnInJurors_53 0 rfl rfl ?_
      refine v_iload_n C dX3_goesOnInJurors_56 2 rfl ?_
      refine v_ialdN C dX3_goesOnInJurors_57 1 rfl p rfl (by omega) (by decide) ?_
      refine v_bipush C 59 dX3_goesOnInJurors_58 (by decide) ?_
      refine v_icmp_ne C 71 dX3_goesOnInJurors_60 (by decide) (fun c3 => ?_) (fun c3 => ?_)
      · refine v_iconst C 0 dX3_goesOnInJurors_71 (by decide) ?_
        exact v_retRi C dX3_goesOnInJurors_72 rfl (by first | (simp [bI, gjB, *]; done) | (simp [bI, gjB, *]; omega) | (simp_all; done))
      · refine v_iload_n C dX3_goesOnInJurors_63 0 rfl ?_
        refine v_if_le C 71 dX3_goesOnInJurors_64 (by decide) (fun c4 => ?_) (fun c4 => ?_)
        · have nc4 : ((p - 3) / 3) ≤ 0 := nI_leD c4 (by omega)
          refine v_iconst C 0 dX3_goesOnInJurors_71 (by decide) ?_
          exact v_retRi C dX3_goesOnInJurors_72 rfl (by first | (simp [bI, gjB, *]; done) | (simp [bI, gjB, *]; omega) | (simp_all; done))
        · have nc4 : 0 < ((p - 3) / 3) := nI_ltD c4 (by omega)
          refine v_iconst C 1 dX3_goesOnInJurors_67 (by decide) ?_
          refine v_goto C 72 dX3_goesOnInJurors_68 (by decide) ?_
          exact v_retRi C dX3_goesOnInJurors_72 rfl (by first | (simp [bI, gjB, *]; done) | (simp [bI, gjB, *]; omega) | (simp_all; done))
    · refine v_iload_n C dX3_goesOnInJurors_47 0 rfl ?_
      refine v_iconst C 5 dX3_goesOnInJurors_48 (by decide) ?_
      refine v_icmp_lt C 67 dX3_goesOnInJurors_49 (by decide) (fun c5 => ?_) (fun c5 => ?_)
      · have nc5 : ((p - 3) / 3) < 5 := nI_ltP c5 (by omega)
        refine v_iconst C 1 dX3_goesOnInJurors_67 (by decide) ?_
        refine v_goto C 72 dX3_goesOnInJurors_68 (by decide) ?_
        exact v_retRi C dX3_goesOnInJurors_72 rfl (by first | (simp [bI, gjB, *]; done) | (simp [bI, gjB, *]; omega) | (simp_all; done))
      · have nc5 : 5 ≤ ((p - 3) / 3) := nI_geP c5 (by omega)
        refine v_aload_n C dX3_goesOnInJurors_52 1 rfl ?_
        refine v_get C f_X3_9 dX3_goesOnInJurors_53 0 rfl rfl ?_
        refine v_iload_n C dX3_goesOnInJurors_56 2 rfl ?_
        refine v_ialdN C dX3_goesOnInJurors_57 1 rfl p rfl (by omega) (by decide) ?_
        refine v_bipush C 59 dX3_goesOnInJurors_58 (by decide) ?_
        refine v_icmp_ne C 71 dX3_goesOnInJurors_60 (by decide) (fun c6 => ?_) (fun c6 => ?_)
        · refine v_iconst C 0 dX3_goesOnInJurors_71 (by decide) ?_
          exact v_retRi C dX3_goesOnInJurors_72 rfl (by first | (simp [bI, gjB, *]; done) | (simp [bI, gjB, *]; omega) | (simp_all; done))
        · refine v_iload_n C dX3_goesOnInJurors_63 0 rfl ?_
          refine v_if_le C 71 dX3_goesOnInJurors_64 (by decide) (fun c7 => ?_) (fun c7 => ?_)
          · have nc7 : ((p - 3) / 3) ≤ 0 := nI_leD c7 (by omega)
            refine v_iconst C 0 dX3_goesOnInJurors_71 (by decide) ?_
            exact v_retRi C dX3_goesOnInJurors_72 rfl (by first | (simp [bI, gjB, *]; done) | (simp [bI, gjB, *]; omega) | (simp_all; done))
          · have nc7 : 0 < ((p - 3) / 3) := nI_ltD c7 (by omega)
            refine v_iconst C 1 dX3_goesOnInJurors_67 (by decide) ?_
            refine v_goto C 72 dX3_goesOnInJurors_68 (by decide) ?_
            exact v_retRi C dX3_goesOnInJurors_72 rfl (by first | (simp [bI, gjB, *]; done) | (simp [bI, gjB, *]; omega) | (simp_all; done))
  have ne1 : ((p - 3) % 3) ≠ 0 := fun q => e1 (by rw [q]; rfl)
  by_cases e8 : nI ((p - 3) % 3) = 1
  · have ne8 : ((p - 3) % 3) = 1 := nI_eqP e8 (by omega) (by decide)
    refine v_lookup C 73 dX3_goesOnInJurors_11 (by decide) (by rw [e8] <;> rfl) (by decide) ?_
    refine v_aload_n C dX3_goesOnInJurors_73 1 rfl ?_
    refine v_iload_n C dX3_goesOnInJurors_74 2 rfl ?_
    refine v_callRi C l_X3_58 (m_X3_kindAt a p tl tf tc (by omega)) (by decide) dX3_goesOnInJurors_75 [0, 1] rfl 0 rfl rfl rfl (rest := []) rfl (Nat.le_of_ble_eq_true rfl) (by decide) (fun r9 h10 => ?_)
    subst h10
    refine v_bipush C (-9) dX3_goesOnInJurors_78 (by decide) ?_
    refine v_icmp_eq C 87 dX3_goesOnInJurors_80 (by decide) (fun c11 => ?_) (fun c11 => ?_)
    · refine v_iconst C 0 dX3_goesOnInJurors_87 (by decide) ?_
      exact v_retRi C dX3_goesOnInJurors_88 rfl (by first | (simp [bI, gjB, *]; done) | (simp [bI, gjB, *]; omega) | (simp_all; done))
    · refine v_iconst C 1 dX3_goesOnInJurors_83 (by decide) ?_
      refine v_goto C 88 dX3_goesOnInJurors_84 (by decide) ?_
      exact v_retRi C dX3_goesOnInJurors_88 rfl (by first | (simp [bI, gjB, *]; done) | (simp [bI, gjB, *]; omega) | (simp_all; done))
  have ne8 : ((p - 3) % 3) ≠ 1 := fun q => e8 (by rw [q]; rfl)
  refine v_lookup C 89 dX3_goesOnInJurors_11 (by decide) (off := 78) (by rw [lv_osw e1 (by decide)]; rw [lv_osw e8 (by decide)]; rfl) (by decide) ?_
  refine v_aload_n C dX3_goesOnInJurors_89 1 rfl ?_
  refine v_iload_n C dX3_goesOnInJurors_90 2 rfl ?_
  refine v_iconst C 1 dX3_goesOnInJurors_91 (by decide) ?_
  refine v_bipush C 9 dX3_goesOnInJurors_92 (by decide) ?_
  refine v_callRi C l_X3_50 (m_X3_isDigit a p tl tf tc 1 9 (by omega)) (by decide) dX3_goesOnInJurors_94 [0, 1] rfl 0 rfl rfl rfl (rest := []) rfl (Nat.le_of_ble_eq_true rfl) (by decide) (fun r12 h13 => ?_)
  subst h13
  by_cases c14 : dgB (tc p) (1 : Int32) (9 : Int32) = true
  · refine v_eqi 1 (bI_t c14) ?_
    exact v_retRi C dX3_goesOnInJurors_97 rfl (by first | (simp [bI, gjB, *]; done) | (simp [bI, gjB, *]; omega) | (simp_all; done))
  · refine v_eqi 0 (bI_f c14) ?_
    exact v_retRi C dX3_goesOnInJurors_97 rfl (by first | (simp [bI, gjB, *]; done) | (simp [bI, gjB, *]; omega) | (simp_all; done))
set_option maxHeartbeats 4000000 in
set_option maxRecDepth 100000 in
theorem m_X3_goesOnInCases {l : Launch} {D : va_G} {cI cB cS : ClassId} (a : Nat → Nat) (p F : Nat) (tl : Int32) (tc : Nat → Int32) (h3 : F ≤ p) (hp : p < 60) : Ri l yX3_goesOnInCases cX3_goesOnInCases 3 (some .boolean) 1 23 D cI cB cS [.ref (a 2), .int (nI p)] [oX a tl (nI F), ia (a 6) cI 60 tc] (fun r => r = bI (gcB tc p F = true)) := by
  refine Ri.of (by decide) (Nat.le_of_ble_eq_true rfl) ?_
  intro zp ze zs zm zb zt zc C
  refine v_lv0 [(0, .ref (a 2)), (1, .int (nI p))] rfl ?_
  refine v_iload_n C dX3_goesOnInCases_0 1 rfl ?_
  refine v_aload_n C dX3_goesOnInCases_1 0 rfl ?_
  refine v_get C f_X3_30 dX3_goesOnInCases_2 0 rfl rfl ?_
  refine v_isub C dX3_goesOnInCases_5 ?_
  refine v_eqi (nI (p - F)) (pk_sub (by omega : F ≤ p)) ?_
  refine v_iconst C 4 dX3_goesOnInCases_6 (by decide) ?_
  refine v_idiv C dX3_goesOnInCases_7 (by decide) ?_
  refine v_eqi (nI ((p - F) / 4)) (pk_div (d := 4) (by omega) (by decide) (by decide)) ?_
  refine v_istore_n C [(2, .int (nI ((p - F) / 4))), (0, .ref (a 2)), (1, .int (nI p))] dX3_goesOnInCases_8 (by decide) rfl ?_
  refine v_iload_n C dX3_goesOnInCases_9 2 rfl ?_
  refine v_aload_n C dX3_goesOnInCases_10 1 rfl ?_
  refine v_get C f_X3_30 dX3_goesOnInCases_11 0 rfl rfl ?_
  refine v_isub C dX3_goesOnInCases_14 ?_
  refine v_eqi (nI (p - F)) (pk_sub (by omega : F ≤ p)) ?_
  refine v_iconst C 4 dX3_goesOnInCases_15 (by decide) ?_
  refine v_irem C dX3_goesOnInCases_16 (by decide) ?_
  refine v_eqi (nI ((p - F) % 4)) (pk_rem (d := 4) (by omega) (by decide) (by decide)) ?_
  by_cases e1 : nI ((p - F) % 4) = 0
  · have ne1 : ((p - F) % 4) = 0 := nI_eqP e1 (by omega) (by decide)
    refine v_lookup C 44 dX3_goesOnInCases_17 (by decide) (by rw [e1] <;> rfl) (by decide) ?_
    refine v_aload_n C dX3_goesOnInCases_44 1 rfl ?_
    refine v_get C f_X3_9 dX3_goesOnInCases_45 0 rfl rfl ?_
    refine v_iload_n C dX3_goesOnInCases_48 2 rfl ?_
    refine v_ialdN C dX3_goesOnInCases_49 1 rfl p rfl (by omega) (by decide) ?_
    refine v_bipush C 59 dX3_goesOnInCases_50 (by decide) ?_
    refine v_icmp_ne C 64 dX3_goesOnInCases_52 (by decide) (fun c2 => ?_) (fun c2 => ?_)
    · refine v_iconst C 0 dX3_goesOnInCases_64 (by decide) ?_
      exact v_retRi C dX3_goesOnInCases_65 rfl (by first | (simp [bI, gcB, *]; done) | (simp [bI, gcB, *]; omega) | (simp_all; done))
    · refine v_iload_n C dX3_goesOnInCases_55 0 rfl ?_
      refine v_iconst C 5 dX3_goesOnInCases_56 (by decide) ?_
      refine v_icmp_ge C 64 dX3_goesOnInCases_57 (by decide) (fun c3 => ?_) (fun c3 => ?_)
      · have nc3 : 5 ≤ ((p - F) / 4) := nI_leD c3 (by omega)
        refine v_iconst C 0 dX3_goesOnInCases_64 (by decide) ?_
        exact v_retRi C dX3_goesOnInCases_65 rfl (by first | (simp [bI, gcB, *]; done) | (simp [bI, gcB, *]; omega) | (simp_all; done))
      · have nc3 : ((p - F) / 4) < 5 := nI_ltD c3 (by omega)
        refine v_iconst C 1 dX3_goesOnInCases_60 (by decide) ?_
        refine v_goto C 65 dX3_goesOnInCases_61 (by decide) ?_
        exact v_retRi C dX3_goesOnInCases_65 rfl (by first | (simp [bI, gcB, *]; done) | (simp [bI, gcB, *]; omega) | (simp_all; done))
  have ne1 : ((p - F) % 4) ≠ 0 := fun q => e1 (by rw [q]; rfl)
  by_cases e4 : nI ((p - F) % 4) = 1
  · have ne4 : ((p - F) % 4) = 1 := nI_eqP e4 (by omega) (by decide)
    refine v_lookup C 66 dX3_goesOnInCases_17 (by decide) (by rw [e4] <;> rfl) (by decide) ?_
    refine v_aload_n C dX3_goesOnInCases_66 1 rfl ?_
    refine v_iload_n C dX3_goesOnInCases_67 2 rfl ?_
    refine v_iconst C 0 dX3_goesOnInCases_68 (by decide) ?_
    refine v_iconst C 5 dX3_goesOnInCases_69 (by decide) ?_
    refine v_callRi C l_X3_50 (m_X3_isDigit a p tl (nI F) tc 0 5 (by omega)) (by decide) dX3_goesOnInCases_70 [0, 1] rfl 0 rfl rfl rfl (rest := []) rfl (Nat.le_of_ble_eq_true rfl) (by decide) (fun r5 h6 => ?_)
    subst h6
    by_cases c7 : dgB (tc p) (0 : Int32) (5 : Int32) = true
    · refine v_eqi 1 (bI_t c7) ?_
      exact v_retRi C dX3_goesOnInCases_73 rfl (by first | (simp [bI, gcB, *]; done) | (simp [bI, gcB, *]; omega) | (simp_all; done))
    · refine v_eqi 0 (bI_f c7) ?_
      exact v_retRi C dX3_goesOnInCases_73 rfl (by first | (simp [bI, gcB, *]; done) | (simp [bI, gcB, *]; omega) | (simp_all; done))
  have ne4 : ((p - F) % 4) ≠ 1 := fun q => e4 (by rw [q]; rfl)
  refine v_lookup C 74 dX3_goesOnInCases_17 (by decide) (off := 57) (by rw [lv_osw e1 (by decide)]; rw [lv_osw e4 (by decide)]; rfl) (by decide) ?_
  refine v_aload_n C dX3_goesOnInCases_74 1 rfl ?_
  refine v_iload_n C dX3_goesOnInCases_75 2 rfl ?_
  refine v_iconst C 1 dX3_goesOnInCases_76 (by decide) ?_
  refine v_bipush C 9 dX3_goesOnInCases_77 (by decide) ?_
  refine v_callRi C l_X3_50 (m_X3_isDigit a p tl (nI F) tc 1 9 (by omega)) (by decide) dX3_goesOnInCases_79 [0, 1] rfl 0 rfl rfl rfl (rest := []) rfl (Nat.le_of_ble_eq_true rfl) (by decide) (fun r8 h9 => ?_)
  subst h9
  by_cases c10 : dgB (tc p) (1 : Int32) (9 : Int32) = true
  · refine v_eqi 1 (bI_t c10) ?_
    exact v_retRi C dX3_goesOnInCases_82 rfl (by first | (simp [bI, gcB, *]; done) | (simp [bI, gcB, *]; omega) | (simp_all; done))
  · refine v_eqi 0 (bI_f c10) ?_
    exact v_retRi C dX3_goesOnInCases_82 rfl (by first | (simp [bI, gcB, *]; done) | (simp [bI, gcB, *]; omega) | (simp_all; done))
set_option maxHeartbeats 4000000 in
set_option maxRecDepth 100000 in
theorem m_X3_goesOn {l : Launch} {D : va_G} {cI cB cS : ClassId} (a : Nat → Nat) (p : Nat) (cf : Option Nat) (tl : Int32) (tc : Nat → Int32) (hp : p < 60) (hc : ∀ c, cf = some c → c ≤ p) : Ri l yX3_goesOn cX3_goesOn 2 (some .boolean) 3 62 D cI cB cS [.ref (a 2), .int (nI p)] [oX a tl (cfI cf), ia (a 6) cI 60 tc] (fun r => r = bI (goB tc p cf = true)) := by
  refine Ri.of (by decide) (Nat.le_of_ble_eq_true rfl) ?_
  intro zp ze zs zm zb zt zc C
  refine v_lv0 [(0, .ref (a 2)), (1, .int (nI p))] rfl ?_
  cases cf with
  | none =>
    refine v_ws0 [oX a tl (-9), ia (a 6) cI 60 tc] rfl ?_
    refine v_iload_n C dX3_goesOn_0 1 rfl ?_
    refine v_if_ne C 21 dX3_goesOn_1 (by decide) (fun c1 => ?_) (fun c1 => ?_)
    · have nc1 : p ≠ 0 := fun q => c1 (by rw [q] <;> rfl)
      refine v_iload_n C dX3_goesOn_21 1 rfl ?_
      refine v_iconst C 3 dX3_goesOn_22 (by decide) ?_
      refine v_icmp_ge C 32 dX3_goesOn_23 (by decide) (fun c2 => ?_) (fun c2 => ?_)
      · have nc2 : 3 ≤ p := nI_leD c2 (by omega)
        refine v_aload_n C dX3_goesOn_32 0 rfl ?_
        refine v_get C f_X3_30 dX3_goesOn_33 0 rfl rfl ?_
        refine v_bipush C (-9) dX3_goesOn_36 (by decide) ?_
        refine v_icmp_ne C 49 dX3_goesOn_38 (by decide) (fun h => absurd h (by decide)) (fun _ => ?_)
        refine v_aload_n C dX3_goesOn_41 0 rfl ?_
        refine v_iload_n C dX3_goesOn_42 1 rfl ?_
        refine v_callRi C l_X3_44 (m_X3_goesOnInJurors a p tl (-9) tc (by omega) (by omega)) (by decide) dX3_goesOn_43 [0, 1] rfl 0 rfl rfl rfl (rest := []) rfl (Nat.le_of_ble_eq_true rfl) (by decide) (fun r3 h4 => ?_)
        subst h4
        by_cases c5 : gjB tc p = true
        · refine v_eqi 1 (bI_t c5) ?_
          refine v_goto C 54 dX3_goesOn_46 (by decide) ?_
          exact v_retRi C dX3_goesOn_54 rfl (by first | (simp [bI, goB, *]; done) | (have q : ¬ p < 3 := (by omega); simp [bI, goB, q, *]; done) | (simp_all [bI, goB]; done))
        · refine v_eqi 0 (bI_f c5) ?_
          refine v_goto C 54 dX3_goesOn_46 (by decide) ?_
          exact v_retRi C dX3_goesOn_54 rfl (by first | (simp [bI, goB, *]; done) | (have q : ¬ p < 3 := (by omega); simp [bI, goB, q, *]; done) | (simp_all [bI, goB]; done))
      · have nc2 : p < 3 := nI_ltD c2 (by omega)
        refine v_aload_n C dX3_goesOn_26 0 rfl ?_
        refine v_iload_n C dX3_goesOn_27 1 rfl ?_
        refine v_callRi C l_X3_41 (m_X3_goesOnInMinutes a p tl (-9) tc (by omega)) (by decide) dX3_goesOn_28 [0, 1] rfl 0 rfl rfl rfl (rest := []) rfl (Nat.le_of_ble_eq_true rfl) (by decide) (fun r6 h7 => ?_)
        subst h7
        by_cases c8 : gmB tc p = true
        · refine v_eqi 1 (bI_t c8) ?_
          exact v_retRi C dX3_goesOn_31 rfl (by first | (simp [bI, goB, *]; done) | (have q : ¬ p < 3 := (by omega); simp [bI, goB, q, *]; done) | (simp_all [bI, goB]; done))
        · refine v_eqi 0 (bI_f c8) ?_
          exact v_retRi C dX3_goesOn_31 rfl (by first | (simp [bI, goB, *]; done) | (have q : ¬ p < 3 := (by omega); simp [bI, goB, q, *]; done) | (simp_all [bI, goB]; done))
    · have nc1 : p = 0 := nI_eqP c1 (by omega) (by omega)
      refine v_aload_n C dX3_goesOn_4 0 rfl ?_
      refine v_get C f_X3_9 dX3_goesOn_5 0 rfl rfl ?_
      refine v_iload_n C dX3_goesOn_8 1 rfl ?_
      refine v_ialdN C dX3_goesOn_9 1 rfl p rfl (by omega) (by decide) ?_
      refine v_bipush C 107 dX3_goesOn_10 (by decide) ?_
      refine v_icmp_ne C 19 dX3_goesOn_12 (by decide) (fun c9 => ?_) (fun c9 => ?_)
      · refine v_iconst C 0 dX3_goesOn_19 (by decide) ?_
        exact v_retRi C dX3_goesOn_20 rfl (by first | (simp [bI, goB, *]; done) | (have q : ¬ p < 3 := (by omega); simp [bI, goB, q, *]; done) | (simp_all [bI, goB]; done))
      · refine v_iconst C 1 dX3_goesOn_15 (by decide) ?_
        refine v_goto C 20 dX3_goesOn_16 (by decide) ?_
        exact v_retRi C dX3_goesOn_20 rfl (by first | (simp [bI, goB, *]; done) | (have q : ¬ p < 3 := (by omega); simp [bI, goB, q, *]; done) | (simp_all [bI, goB]; done))
  | some c0 =>
    refine v_ws0 [oX a tl (nI c0), ia (a 6) cI 60 tc] rfl ?_
    refine v_iload_n C dX3_goesOn_0 1 rfl ?_
    refine v_if_ne C 21 dX3_goesOn_1 (by decide) (fun c10 => ?_) (fun c10 => ?_)
    · have nc10 : p ≠ 0 := fun q => c10 (by rw [q] <;> rfl)
      refine v_iload_n C dX3_goesOn_21 1 rfl ?_
      refine v_iconst C 3 dX3_goesOn_22 (by decide) ?_
      refine v_icmp_ge C 32 dX3_goesOn_23 (by decide) (fun c11 => ?_) (fun c11 => ?_)
      · have nc11 : 3 ≤ p := nI_leD c11 (by omega)
        refine v_aload_n C dX3_goesOn_32 0 rfl ?_
        refine v_get C f_X3_30 dX3_goesOn_33 0 rfl rfl ?_
        refine v_bipush C (-9) dX3_goesOn_36 (by decide) ?_
        refine v_icmp_ne C 49 dX3_goesOn_38 (by decide) (fun c12 => ?_) (fun c12 => ?_)
        · refine v_aload_n C dX3_goesOn_49 0 rfl ?_
          refine v_iload_n C dX3_goesOn_50 1 rfl ?_
          refine v_callRi C l_X3_47 (m_X3_goesOnInCases a p c0 tl tc (hc c0 rfl) (by omega)) (by decide) dX3_goesOn_51 [0, 1] rfl 0 rfl rfl rfl (rest := []) rfl (Nat.le_of_ble_eq_true rfl) (by decide) (fun r13 h14 => ?_)
          subst h14
          by_cases c15 : gcB tc p c0 = true
          · refine v_eqi 1 (bI_t c15) ?_
            exact v_retRi C dX3_goesOn_54 rfl (by first | (simp [bI, goB, *]; done) | (have q : ¬ p < 3 := (by omega); simp [bI, goB, q, *]; done) | (simp_all [bI, goB]; done))
          · refine v_eqi 0 (bI_f c15) ?_
            exact v_retRi C dX3_goesOn_54 rfl (by first | (simp [bI, goB, *]; done) | (have q : ¬ p < 3 := (by omega); simp [bI, goB, q, *]; done) | (simp_all [bI, goB]; done))
        · exact absurd c12 (nI_ne9 (by have := hc c0 rfl; omega))
      · have nc11 : p < 3 := nI_ltD c11 (by omega)
        refine v_aload_n C dX3_goesOn_26 0 rfl ?_
        refine v_iload_n C dX3_goesOn_27 1 rfl ?_
        refine v_callRi C l_X3_41 (m_X3_goesOnInMinutes a p tl (nI c0) tc (by omega)) (by decide) dX3_goesOn_28 [0, 1] rfl 0 rfl rfl rfl (rest := []) rfl (Nat.le_of_ble_eq_true rfl) (by decide) (fun r16 h17 => ?_)
        subst h17
        by_cases c18 : gmB tc p = true
        · refine v_eqi 1 (bI_t c18) ?_
          exact v_retRi C dX3_goesOn_31 rfl (by first | (simp [bI, goB, *]; done) | (have q : ¬ p < 3 := (by omega); simp [bI, goB, q, *]; done) | (simp_all [bI, goB]; done))
        · refine v_eqi 0 (bI_f c18) ?_
          exact v_retRi C dX3_goesOn_31 rfl (by first | (simp [bI, goB, *]; done) | (have q : ¬ p < 3 := (by omega); simp [bI, goB, q, *]; done) | (simp_all [bI, goB]; done))
    · have nc10 : p = 0 := nI_eqP c10 (by omega) (by omega)
      refine v_aload_n C dX3_goesOn_4 0 rfl ?_
      refine v_get C f_X3_9 dX3_goesOn_5 0 rfl rfl ?_
      refine v_iload_n C dX3_goesOn_8 1 rfl ?_
      refine v_ialdN C dX3_goesOn_9 1 rfl p rfl (by omega) (by decide) ?_
      refine v_bipush C 107 dX3_goesOn_10 (by decide) ?_
      refine v_icmp_ne C 19 dX3_goesOn_12 (by decide) (fun c19 => ?_) (fun c19 => ?_)
      · refine v_iconst C 0 dX3_goesOn_19 (by decide) ?_
        exact v_retRi C dX3_goesOn_20 rfl (by first | (simp [bI, goB, *]; done) | (have q : ¬ p < 3 := (by omega); simp [bI, goB, q, *]; done) | (simp_all [bI, goB]; done))
      · refine v_iconst C 1 dX3_goesOn_15 (by decide) ?_
        refine v_goto C 20 dX3_goesOn_16 (by decide) ?_
        exact v_retRi C dX3_goesOn_20 rfl (by first | (simp [bI, goB, *]; done) | (have q : ¬ p < 3 := (by omega); simp [bI, goB, q, *]; done) | (simp_all [bI, goB]; done))
set_option maxHeartbeats 4000000 in
set_option maxRecDepth 100000 in
theorem m_X3_isWhole {l : Launch} {D : va_G} {cI cB cS : ClassId} (a : Nat → Nat) (n : Nat) (cf : Option Nat) (hn : n ≤ 60) (hc : ∀ c, cf = some c → c ≤ n) : Ri l yX3_isWhole cX3_isWhole 1 (some .boolean) 0 0 D cI cB cS [.ref (a 2)] [oX a (nI n) (cfI cf)] (fun r => r = bI (whC cf n = true)) := by
  refine Ri.of (by decide) (Nat.le_of_ble_eq_true rfl) ?_
  intro zp ze zs zm zb zt zc C
  refine v_lv0 [(0, .ref (a 2))] rfl ?_
  cases cf with
  | none =>
    refine v_ws0 [oX a (nI n) (-9)] rfl ?_
    refine v_aload_n C dX3_isWhole_0 0 rfl ?_
    refine v_get C f_X3_30 dX3_isWhole_1 0 rfl rfl ?_
    refine v_bipush C (-9) dX3_isWhole_4 (by decide) ?_
    refine v_icmp_eq C 27 dX3_isWhole_6 (by decide) (fun _ => ?_) (fun h => absurd h (by decide))
    refine v_iconst C 0 dX3_isWhole_27 (by decide) ?_
    exact v_retRi C dX3_isWhole_28 rfl (by simp [bI, whC, *])
  | some c0 =>
    refine v_ws0 [oX a (nI n) (nI c0)] rfl ?_
    refine v_aload_n C dX3_isWhole_0 0 rfl ?_
    refine v_get C f_X3_30 dX3_isWhole_1 0 rfl rfl ?_
    refine v_bipush C (-9) dX3_isWhole_4 (by decide) ?_
    refine v_icmp_eq C 27 dX3_isWhole_6 (by decide) (fun c1 => ?_) (fun c1 => ?_)
    · exact absurd c1 (nI_ne9 (by have := hc c0 rfl; omega))
    · refine v_aload_n C dX3_isWhole_9 0 rfl ?_
      refine v_get C f_X3_26 dX3_isWhole_10 0 rfl rfl ?_
      refine v_aload_n C dX3_isWhole_13 0 rfl ?_
      refine v_get C f_X3_30 dX3_isWhole_14 0 rfl rfl ?_
      refine v_isub C dX3_isWhole_17 ?_
      refine v_eqi (nI (n - c0)) (pk_sub (hc c0 rfl)) ?_
      refine v_iconst C 4 dX3_isWhole_18 (by decide) ?_
      refine v_irem C dX3_isWhole_19 (by decide) ?_
      refine v_eqi (nI ((n - c0) % 4)) (pk_rem (d := 4) (by omega) (by decide) (by decide)) ?_
      refine v_if_ne C 27 dX3_isWhole_20 (by decide) (fun c2 => ?_) (fun c2 => ?_)
      · have nc2 : ((n - c0) % 4) ≠ 0 := fun q => c2 (by rw [q] <;> rfl)
        refine v_iconst C 0 dX3_isWhole_27 (by decide) ?_
        exact v_retRi C dX3_isWhole_28 rfl (by simp [bI, whC, *])
      · have nc2 : ((n - c0) % 4) = 0 := nI_eqP c2 (by omega) (by omega)
        refine v_iconst C 1 dX3_isWhole_23 (by decide) ?_
        refine v_goto C 28 dX3_isWhole_24 (by decide) ?_
        exact v_retRi C dX3_isWhole_28 rfl (by simp [bI, whC, *])
set_option maxHeartbeats 4000000 in
set_option maxRecDepth 100000 in
theorem m_X3_firstFault {l : Launch} {D : va_G} {cI cB cS : ClassId} (a : Nat → Nat) (k i n : Nat) (tl : Int32) (tf : Int32) (tc : Nat → Int32) (hs : Int32) (sl : Int32) (sn : Int32) (sc : Nat → Int32) (hin : i + n ≤ 60) : Mi l yX3_firstFault cX3_firstFault 5 (some .int) 4 83 D cI cB cS [.ref (a 2), .ref (a (10 + k)), .int (nI i), .int (nI n)] [oX a tl tf, ia (a 6) cI 60 tc, oS a k hs sl sn, ia (a (14 + k)) cI 60 sc] (fun r w => r = cfI (ffF (va_cpy sc tc i 0 n) n) ∧ ∃ tf', w = [oX a (nI n) tf', ia (a 6) cI 60 (va_cpy sc tc i 0 n), oS a k hs sl sn, ia (a (14 + k)) cI 60 sc] ∧ (ffF (va_cpy sc tc i 0 n) n = none → tf' = cfI (cfN (va_cpy sc tc i 0 n) n))) := by
  refine Mi.of (by decide) (Nat.le_of_ble_eq_true rfl) ?_
  intro zp ze zs zm zb zt zc zz zA hA C hnm
  refine v_lv0 [(0, .ref (a 2)), (1, .ref (a (10 + k))), (2, .int (nI i)), (3, .int (nI n))] rfl ?_
  refine v_aload_n C dX3_firstFault_0 1 rfl ?_
  refine v_get C f_X3_15 dX3_firstFault_1 2 rfl rfl ?_
  refine v_iload_n C dX3_firstFault_4 2 rfl ?_
  refine v_aload_n C dX3_firstFault_5 0 rfl ?_
  refine v_get C f_X3_9 dX3_firstFault_6 0 rfl rfl ?_
  refine v_iconst C 0 dX3_firstFault_9 (by decide) ?_
  refine v_iload_n C dX3_firstFault_10 3 rfl ?_
  refine v_copy C lc_X3_20 lc_nat lc_sta lc_ini [oX a tl tf, ia (a 6) cI 60 (va_cpy sc tc i 0 n), oS a k hs sl sn, ia (a (14 + k)) cI 60 sc] dX3_firstFault_11 3 1 rfl rfl i 0 n rfl rfl rfl (by omega) (by omega) (by decide) (by decide) (by decide) (by decide) rfl ?_
  refine v_aload_n C dX3_firstFault_14 0 rfl ?_
  refine v_iload_n C dX3_firstFault_15 3 rfl ?_
  refine v_put C p_X3_26 [oX a (nI n) tf, ia (a 6) cI 60 (va_cpy sc tc i 0 n), oS a k hs sl sn, ia (a (14 + k)) cI 60 sc] dX3_firstFault_16 0 rfl rfl rfl (Nat.le_of_ble_eq_true rfl) rfl ?_
  refine v_aload_n C dX3_firstFault_19 0 rfl ?_
  refine v_bipush C (-9) dX3_firstFault_20 (by decide) ?_
  refine v_put C p_X3_30 [oX a (nI n) (-9), ia (a 6) cI 60 (va_cpy sc tc i 0 n), oS a k hs sl sn, ia (a (14 + k)) cI 60 sc] dX3_firstFault_22 0 rfl rfl rfl (Nat.le_of_ble_eq_true rfl) rfl ?_
  refine v_iconst C 0 dX3_firstFault_25 (by decide) ?_
  refine v_istore C [(4, .int 0), (0, .ref (a 2)), (1, .ref (a (10 + k))), (2, .int (nI i)), (3, .int (nI n))] dX3_firstFault_26 (by decide) rfl ?_
  refine v_ws0 [oX a (nI n) (cfI none), ia (a 6) cI 60 (va_cpy sc tc i 0 n), oS a k hs sl sn, ia (a (14 + k)) cI 60 sc] rfl ?_
  have lp : ∀ (n_2 : Nat) (p : Nat) (cf : Option Nat), n - p < n_2 → (p ≤ n) → (cf = cfN (va_cpy sc tc i 0 n) p) → (ffR (va_cpy sc tc i 0 n) n n 0 = ffR (va_cpy sc tc i 0 n) n (n - p) p) → V zp l ze (rmOf 4 83) zs zm [.ref (a 2), .ref (a (10 + k)), .int (nI i), .int (nI n)].toArray zb zt zc D (IM zA zs) (QMi zb [.ref (a 2), .ref (a (10 + k)), .int (nI i), .int (nI n)].toArray zs D cI cB cS [oX a tl tf, ia (a 6) cI 60 tc, oS a k hs sl sn, ia (a (14 + k)) cI 60 sc] zz (fun r w => r = cfI (ffF (va_cpy sc tc i 0 n) n) ∧ ∃ tf', w = [oX a (nI n) tf', ia (a 6) cI 60 (va_cpy sc tc i 0 n), oS a k hs sl sn, ia (a (14 + k)) cI 60 sc] ∧ (ffF (va_cpy sc tc i 0 n) n = none → tf' = cfI (cfN (va_cpy sc tc i 0 n) n)))) 0 0 5 [oX a (nI n) (cfI cf), ia (a 6) cI 60 (va_cpy sc tc i 0 n), oS a k hs sl sn, ia (a (14 + k)) cI 60 sc] [(4, .int (nI p)), (0, .ref (a 2)), (1, .ref (a (10 + k))), (2, .int (nI i)), (3, .int (nI n))] 28 [] := by
    intro n_2
    induction n_2 with
    | zero => intro p cf b1; exact absurd b1 (by omega)
    | succ n_2 ihn_2 =>
      intro p cf b1 hp hcf hff
      refine v_iload C dX3_firstFault_28 0 rfl ?_
      refine v_iload_n C dX3_firstFault_30 4 rfl ?_
      refine v_icmp_ge C 79 dX3_firstFault_31 (by decide) (fun c3 => ?_) (fun c3 => ?_)
      · have nc3 : n ≤ p := nI_leD c3 (by omega)
        refine v_aload_n C dX3_firstFault_79 1 rfl ?_
        refine v_callRi C l_X3_37 (m_X3_isWhole a n cf (by omega) (fun c hc => by rw [hcf] at hc; exact Nat.le_of_lt (Nat.lt_of_lt_of_le (cfN_lt hc) (by omega)))) (by decide) dX3_firstFault_80 [0] rfl 0 rfl rfl rfl (rest := []) rfl (Nat.le_of_ble_eq_true rfl) (by decide) (fun r4 h5 => ?_)
        subst h5
        by_cases c6 : whC cf n = true
        · refine v_eqi 1 (bI_t c6) ?_
          refine v_if_eq C 91 dX3_firstFault_83 (by decide) (fun h => absurd h (by decide)) (fun _ => ?_)
          refine v_bipush C (-9) dX3_firstFault_86 (by decide) ?_
          refine v_goto C 92 dX3_firstFault_88 (by decide) ?_
          exact v_reti C hA dX3_firstFault_92 rfl (have hz := ff_ok hff (by omega) hcf c6; ⟨by rw [hz.1]; rfl, cfI cf, rfl, fun _ => by rw [hz.2]⟩)
        · refine v_eqi 0 (bI_f c6) ?_
          refine v_if_eq C 91 dX3_firstFault_83 (by decide) (fun _ => ?_) (fun h => absurd h (by decide))
          refine v_iload_n C dX3_firstFault_91 4 rfl ?_
          exact v_reti C hA dX3_firstFault_92 rfl (have hz := ff_short hff (by omega) hcf c6; ⟨by rw [hz]; rfl, cfI cf, rfl, fun h => by rw [hz] at h; cases h⟩)
      · have nc3 : p < n := nI_ltD c3 (by omega)
        refine v_aload_n C dX3_firstFault_34 1 rfl ?_
        refine v_iload C dX3_firstFault_35 0 rfl ?_
        refine v_callRi C l_X3_33 (m_X3_goesOn a p cf (nI n) (va_cpy sc tc i 0 n) (by omega) (fun c hc => by rw [hcf] at hc; exact Nat.le_of_lt (cfN_lt hc))) (by decide) dX3_firstFault_37 [0, 1] rfl 0 rfl rfl rfl (rest := []) rfl (Nat.le_of_ble_eq_true rfl) (by decide) (fun r7 h8 => ?_)
        subst h8
        by_cases c9 : goB (va_cpy sc tc i 0 n) p cf = true
        · refine v_eqi 1 (bI_t c9) ?_
          refine v_if_ne C 46 dX3_firstFault_40 (by decide) (fun _ => ?_) (fun h => absurd h (by decide))
          cases cf with
          | none =>
            refine v_ws0 [oX a (nI n) (-9), ia (a 6) cI 60 (va_cpy sc tc i 0 n), oS a k hs sl sn, ia (a (14 + k)) cI 60 sc] rfl ?_
            refine v_aload_n C dX3_firstFault_46 1 rfl ?_
            refine v_get C f_X3_30 dX3_firstFault_47 0 rfl rfl ?_
            refine v_bipush C (-9) dX3_firstFault_50 (by decide) ?_
            refine v_icmp_ne C 73 dX3_firstFault_52 (by decide) (fun h => absurd h (by decide)) (fun _ => ?_)
            refine v_aload_n C dX3_firstFault_55 1 rfl ?_
            refine v_get C f_X3_9 dX3_firstFault_56 0 rfl rfl ?_
            refine v_iload C dX3_firstFault_59 0 rfl ?_
            refine v_ialdN C dX3_firstFault_61 1 rfl p rfl (by omega) (by decide) ?_
            refine v_bipush C 59 dX3_firstFault_62 (by decide) ?_
            refine v_icmp_ne C 73 dX3_firstFault_64 (by decide) (fun c10 => ?_) (fun c10 => ?_)
            · refine v_iinc C (nI (p + 1)) [(4, .int (nI (p + 1))), (0, .ref (a 2)), (1, .ref (a (10 + k))), (2, .int (nI i)), (3, .int (nI n))] 0 dX3_firstFault_73 rfl (nI_inc _) (by decide) rfl ?_
              refine v_goto C 28 dX3_firstFault_76 (by decide) ?_
              refine v_ws0 [oX a (nI n) (cfI (none)), ia (a 6) cI 60 (va_cpy sc tc i 0 n), oS a k hs sl sn, ia (a (14 + k)) cI 60 sc] rfl ?_
              exact ihn_2 (p + 1) none (by omega) (by omega) ((cfN_none hcf.symm c10).symm) (by rw [hff]; exact ffR_go (by omega) (by rw [← hcf]; exact c9))
            · refine v_aload_n C dX3_firstFault_67 1 rfl ?_
              refine v_iload C dX3_firstFault_68 0 rfl ?_
              refine v_put C p_X3_30 [oX a (nI n) (nI p), ia (a 6) cI 60 (va_cpy sc tc i 0 n), oS a k hs sl sn, ia (a (14 + k)) cI 60 sc] dX3_firstFault_70 0 rfl rfl rfl (Nat.le_of_ble_eq_true rfl) rfl ?_
              refine v_iinc C (nI (p + 1)) [(4, .int (nI (p + 1))), (0, .ref (a 2)), (1, .ref (a (10 + k))), (2, .int (nI i)), (3, .int (nI n))] 0 dX3_firstFault_73 rfl (nI_inc _) (by decide) rfl ?_
              refine v_goto C 28 dX3_firstFault_76 (by decide) ?_
              refine v_ws0 [oX a (nI n) (cfI (some p)), ia (a 6) cI 60 (va_cpy sc tc i 0 n), oS a k hs sl sn, ia (a (14 + k)) cI 60 sc] rfl ?_
              exact ihn_2 (p + 1) (some p) (by omega) (by omega) ((cfN_semi hcf.symm c10).symm) (by rw [hff]; exact ffR_go (by omega) (by rw [← hcf]; exact c9))
          | some c0 =>
            refine v_ws0 [oX a (nI n) (nI c0), ia (a 6) cI 60 (va_cpy sc tc i 0 n), oS a k hs sl sn, ia (a (14 + k)) cI 60 sc] rfl ?_
            refine v_aload_n C dX3_firstFault_46 1 rfl ?_
            refine v_get C f_X3_30 dX3_firstFault_47 0 rfl rfl ?_
            refine v_bipush C (-9) dX3_firstFault_50 (by decide) ?_
            refine v_icmp_ne C 73 dX3_firstFault_52 (by decide) (fun c11 => ?_) (fun c11 => ?_)
            · refine v_iinc C (nI (p + 1)) [(4, .int (nI (p + 1))), (0, .ref (a 2)), (1, .ref (a (10 + k))), (2, .int (nI i)), (3, .int (nI n))] 0 dX3_firstFault_73 rfl (nI_inc _) (by decide) rfl ?_
              refine v_goto C 28 dX3_firstFault_76 (by decide) ?_
              refine v_ws0 [oX a (nI n) (cfI (some c0)), ia (a 6) cI 60 (va_cpy sc tc i 0 n), oS a k hs sl sn, ia (a (14 + k)) cI 60 sc] rfl ?_
              exact ihn_2 (p + 1) (some c0) (by omega) (by omega) ((cfN_some hcf.symm).symm) (by rw [hff]; exact ffR_go (by omega) (by rw [← hcf]; exact c9))
            · exact absurd c11 (nI_ne9 (by have := cfN_lt hcf.symm; omega))
        · refine v_eqi 0 (bI_f c9) ?_
          refine v_if_ne C 46 dX3_firstFault_40 (by decide) (fun h => absurd h (by decide)) (fun _ => ?_)
          refine v_iload C dX3_firstFault_43 0 rfl ?_
          exact v_reti C hA dX3_firstFault_45 rfl (have hz := ff_no hff (by omega) hcf c9; ⟨by rw [hz]; rfl, cfI cf, rfl, fun h => by rw [hz] at h; cases h⟩)
  exact lp (n - 0 + 1) 0 none (by omega) (by omega) rfl rfl
