/-! what the calls answer, and what is so behind them -/
abbrev zN (x : Int32) : Nat := x.toNatClampNeg
def ojF (nj : Nat) (kd ag : Nat → Int32) (s0 st : Nat) (j x : Int32) : Int32 := if ¬ j < 0 ∧ ¬ nI nj ≤ j then (if x = 0 then kd (zN j) else if x = 1 then ag (zN j) else if x = 2 then bI (s0.testBit (zN j) = true) else if x = 3 then bI (st.testBit (zN j) = true) else -2) else -1
def ocF (nc : Nat) (de ta we : Nat → Int32) (c x : Int32) : Int32 := if ¬ c < 0 ∧ ¬ nI nc ≤ c then (if x = 0 then de (zN c) else if x = 1 then ta (zN c) else if x = 2 then we (zN c) else -2) else -1
def ckF (nc wl : Nat) (x : Int32) : Int32 := if ¬ x < 0 ∧ x < 64 then (if nI nc ≤ 0 then -3 else nI wl) else -2
def ckW (nc wl : Nat) (x : Int32) : Nat := if ¬ x < 0 ∧ x < 64 ∧ ¬ nI nc ≤ 0 then zN x else wl
def trF (nj m : Nat) (j is : Int32) : Int32 := if ¬ j < 0 ∧ ¬ nI nj ≤ j then (if wbN m (zN j) is = m then 0 else 1) else -1
def trW (nj m : Nat) (j is : Int32) : Nat := if ¬ j < 0 ∧ ¬ nI nj ≤ j then wbN m (zN j) is else m
def miF (nc : Nat) (si v : Int32) : Int32 := if ¬ v < 5 ∧ v ≤ 60 then (if nI nc ≤ 0 then -3 else si) else -2
def miW (nc : Nat) (si v : Int32) : Int32 := if ¬ v < 5 ∧ v ≤ 60 ∧ ¬ nI nc ≤ 0 then v else si
def vtF (nj nc : Nat) (kd ag : Nat → Int32) (s0 st wl : Nat) (dn : Nat → Nat) (c mi : Int32) : Int32 := if ¬ c < 0 ∧ ¬ nI nc ≤ c then (if ¬ mi < 0 ∧ mi ≤ 60 then nI (mk (gB kd ag s0 st (wl.testBit (dn (zN c))) mi) nj) else -2) else -1
def rdOk (nc nr : Nat) (c h : Int32) : Prop := (¬ c < 0 ∧ ¬ nI nc ≤ c) ∧ (¬ h < 0 ∧ h ≤ 2) ∧ nr < 8
def rdF (nc nr : Nat) (c h : Int32) : Int32 := if ¬ c < 0 ∧ ¬ nI nc ≤ c then (if ¬ h < 0 ∧ h ≤ 2 then (if nr < 8 then nI nr else -4) else -2) else -1
def rdN (nc nr : Nat) (c h : Int32) : Nat := if (¬ c < 0 ∧ ¬ nI nc ≤ c) ∧ (¬ h < 0 ∧ h ≤ 2) ∧ nr < 8 then nr + 1 else nr
def rdC (nc nr : Nat) (f : Nat → Int32) (c h x : Int32) : Nat → Int32 := if (¬ c < 0 ∧ ¬ nI nc ≤ c) ∧ (¬ h < 0 ∧ h ≤ 2) ∧ nr < 8 then upd f nr x else f
def bkF (nr : Nat) (k : Int32) : Int32 := if ¬ k < 0 ∧ k ≤ nI nr then nI (nr - zN k) else -2
def bkN (nr : Nat) (k : Int32) : Nat := if ¬ k < 0 ∧ k ≤ nI nr then nr - zN k else nr
def tlF (nj : Nat) (kd ag : Nat → Int32) (j : Int32) : Int32 := if ¬ j < 0 ∧ ¬ nI nj ≤ j then (if kd (zN j) = 1 then ag (zN j) + 100 else if kd (zN j) = 2 then ag (zN j) + 100 + ag (zN j) else ag (zN j)) else -1
def tlT (nj : Nat) (kd : Nat → Int32) (tr j : Int32) : Int32 := if ¬ j < 0 ∧ ¬ nI nj ≤ j then (if kd (zN j) = 1 then 31 * (31 * tr + 2) + 1 else if kd (zN j) = 2 then 31 * (31 * (31 * (31 * tr + 3) + 2) + 1) + 1 else 31 * tr + 1) else tr
def huF (nj : Nat) (kd : Nat → Int32) (j : Int32) : Int32 := if ¬ j < 0 ∧ ¬ nI nj ≤ j then (if kd (zN j) = 2 then 70 else j) else -1
def huT (nj : Nat) (kd : Nat → Int32) (tr j : Int32) : Int32 := if ¬ j < 0 ∧ ¬ nI nj ≤ j then (if kd (zN j) = 2 then 31 * tr + 5 else 31 * tr + 4) else tr
def asF (nj : Nat) (kd : Nat → Int32) (j x : Int32) : Int32 := if ¬ j < 0 ∧ ¬ nI nj ≤ j then (if ¬ x < 0 ∧ x < 3 then (if x ≤ kd (zN j) then 1 else -12) else -2) else -1
def asT (nj : Nat) (kd : Nat → Int32) (j x : Int32) : Int32 := if (¬ j < 0 ∧ ¬ nI nj ≤ j) ∧ (¬ x < 0 ∧ x < 3) ∧ ¬ x ≤ kd (zN j) then 2 else 0
def maF (nj nc : Nat) (si : Int32) (wl nr : Nat) (x : Int32) : Int32 := if x = 0 then nI nc else if x = 1 then nI nj else if x = 2 then si else if x = 3 then nI wl else if x = 4 then nI nr else -2
def woF (nj : Nat) (val : Nat → Int32) (st : Nat) (j : Int32) : Int32 := if ¬ j < 0 ∧ ¬ nI nj ≤ j then val st - val (set1 st (zN j)) + 100 else -1
theorem wb_eq : ∀ m, m < 64 → ∀ j, j < 6 → set1 m j < 64 ∧ clr m j < 64 := by decide +kernel
theorem wbN_lt {m j : Nat} (hm : m < 64) (hj : j < 6) (is : Int32) : wbN m j is < 64 := by
  unfold wbN
  split
  · exact (wb_eq m hm j hj).2
  · exact (wb_eq m hm j hj).1
/-- the sentences stay small -/
theorem se_bd {nj : Nat} {tk ag : Nat → Int32} {st lw : Nat} {dn : Nat → Nat} {ta we : Nat → Int32} {si : Int32} {un : Nat} {o : Nat → Nat} {nc L : Nat} (hwe : ∀ c, c < nc → 0 ≤ (we c).toInt ∧ (we c).toInt ≤ 9) (ho : ∀ p, p < L → o p < nc) (hL : L ≤ 5) : ∀ p, p ≤ L → 0 ≤ (sitS nj tk ag st lw dn ta we si un o p).2.2.2.2.1.toInt ∧ (sitS nj tk ag st lw dn ta we si un o p).2.2.2.2.1.toInt ≤ 9 * p
  | 0, _ => by
    rw [sitS]
    exact ⟨by show (0 : Int) ≤ (0 : Int32).toInt; decide, by show (0 : Int32).toInt ≤ 9 * ((0 : Nat) : Int); decide⟩
  | p + 1, hp => by
    have ih := se_bd (nj := nj) (tk := tk) (ag := ag) (st := st) (lw := lw) (dn := dn) (ta := ta) (si := si) (un := un) hwe ho hL p (by omega)
    have hw := hwe (o p) (ho p (by omega))
    have hadd : ∀ s : Int32, 0 ≤ s.toInt → s.toInt ≤ 9 * p → 0 ≤ (s + we (o p)).toInt ∧ (s + we (o p)).toInt ≤ 9 * ((p + 1 : Nat) : Int) := by
      intro s h1 h2
      have e : (s + we (o p)).toInt = s.toInt + (we (o p)).toInt := by
        rw [Int32.toInt_add]
        apply Int.bmod_eq_of_le <;> omega
      rw [e]
      omega
    have hkeep : ∀ s : Int32, 0 ≤ s.toInt → s.toInt ≤ 9 * p → 0 ≤ s.toInt ∧ s.toInt ≤ 9 * ((p + 1 : Nat) : Int) := by
      intro s h1 h2
      omega
    rw [sitS, sitStep]
    (repeat' split) <;> first | exact hkeep _ ih.1 ih.2 | exact hadd _ ih.1 ih.2
set_option maxHeartbeats 4000000 in
set_option maxRecDepth 100000 in
theorem m_X4_ofJuror {l : Launch} {D : va_G} {cI cB cS : ClassId} (a : Nat → Nat) (nj nc wl s0 st nr : Nat) (tr : Int32) (fa : Int32) (bo : Nat → Int32) (ln : Int32) (lw : Int32) (ss : Int32) (sx : Int32) (un : Int32) (en : Int32) (se : Int32) (tk : Nat → Int32) (od : Nat → Int32) (ve : Nat → Int32) (vd : Nat → Int32) (si : Int32) (kd : Nat → Int32) (ag : Nat → Int32) (de : Nat → Int32) (ta : Nat → Int32) (we : Nat → Int32) (rC : Nat → Int32) (rH : Nat → Int32) (j : Int32) (x : Int32) (hnj : nj ≤ 5) (hnc : nc ≤ 5) (hlw : wl < 64) (hs0 : s0 < 2 ^ nj) (hst2 : st < 2 ^ nj) (hp5 : 2 ^ nj ≤ 32) (hnr : nr ≤ 8) : Mi l yX4_ofJuror cX4_ofJuror 3 (some .int) 1 21 D cI cB cS [.ref (a 0), .int j, .int x] [oC a tr fa, ia (a 5) cI 5 bo, oT a ln lw ss sx un en se, ia (a 31) cI 5 tk, ia (a 32) cI 5 od, ia (a 33) cI 5 ve, ia (a 34) cI 6 vd, oK a si (nI nj) (nI nc) (nI wl) (nI s0) (nI st) (nI nr), ia (a 20) cI 5 kd, ia (a 21) cI 5 ag, ia (a 22) cI 5 de, ia (a 23) cI 5 ta, ia (a 24) cI 5 we, ia (a 25) cI 8 rC, ia (a 26) cI 8 rH] (fun r w => r = ojF nj kd ag s0 st j x ∧ w = [oC a tr fa, ia (a 5) cI 5 bo, oT a ln lw ss sx un en se, ia (a 31) cI 5 tk, ia (a 32) cI 5 od, ia (a 33) cI 5 ve, ia (a 34) cI 6 vd, oK a si (nI nj) (nI nc) (nI wl) (nI s0) (nI st) (nI nr), ia (a 20) cI 5 kd, ia (a 21) cI 5 ag, ia (a 22) cI 5 de, ia (a 23) cI 5 ta, ia (a 24) cI 5 we, ia (a 25) cI 8 rC, ia (a 26) cI 8 rH]) := by
  refine Mi.of (by decide) (Nat.le_of_ble_eq_true rfl) ?_
  intro zp ze zs zm zb zt zc zz zA hA C hnm
  refine v_lv0 [(0, .ref (a 0)), (1, .int j), (2, .int x)] rfl ?_
  refine v_aload_n C dX4_ofJuror_0 0 rfl ?_
  refine v_get C f_X4_27 dX4_ofJuror_1 0 rfl rfl ?_
  refine v_iload_n C dX4_ofJuror_4 1 rfl ?_
  refine v_callRi C l_X4_75 (m_X0_isJuror a si (nI nj) (nI nc) (nI wl) (nI s0) (nI st) (nI nr) j) (by decide) dX4_ofJuror_5 [7] rfl 7 rfl rfl rfl (rest := []) rfl (Nat.le_of_ble_eq_true rfl) (by decide) (fun r1 h2 => ?_)
  subst h2
  by_cases c3 : ¬ j < 0 ∧ ¬ (nI nj) ≤ j
  · refine v_eqi 1 (bI_t c3) ?_
    refine v_if_ne C 13 dX4_ofJuror_8 (by decide) (fun _ => ?_) (fun h => absurd h (by decide))
    obtain ⟨jN, hjN, rfl⟩ := ix_of' (by omega) c3
    have zjN : (nI jN).toNatClampNeg = jN := nI_clamp (by omega)
    refine v_iload_n C dX4_ofJuror_13 2 rfl ?_
    by_cases e4 : x = 0
    · refine v_tableIn C 44 dX4_ofJuror_14 (by rw [e4]; decide) (by rw [e4]; decide) (by rw [e4] <;> rfl) (by decide) ?_
      refine v_aload_n C dX4_ofJuror_44 0 rfl ?_
      refine v_get C f_X4_27 dX4_ofJuror_45 0 rfl rfl ?_
      refine v_get C f_X4_78 dX4_ofJuror_48 7 rfl rfl ?_
      refine v_iload_n C dX4_ofJuror_51 1 rfl ?_
      refine v_ialdN C dX4_ofJuror_52 8 rfl jN rfl (by omega) (by decide) ?_
      exact v_reti C hA dX4_ofJuror_53 rfl (⟨by first | (simp only [ojF, bI, zjN, c3, e4, not_false_eq_true, not_true_eq_false, and_self, and_true, true_and, and_false, false_and, ↓reduceIte]; done) | (simp only [ojF, bI, zjN, c3, e4, not_false_eq_true, not_true_eq_false, and_self, and_true, true_and, and_false, false_and, ↓reduceIte]; rfl) | (simp [ojF, bI, zjN, c3, e4]; done) | rfl, by first | (simp only [ojF, bI, zjN, c3, e4, not_false_eq_true, not_true_eq_false, and_self, and_true, true_and, and_false, false_and, ↓reduceIte]; done) | (simp only [ojF, bI, zjN, c3, e4, not_false_eq_true, not_true_eq_false, and_self, and_true, true_and, and_false, false_and, ↓reduceIte]; rfl) | (simp [ojF, bI, zjN, c3, e4]; done) | rfl⟩)
    by_cases e5 : x = 1
    · refine v_tableIn C 54 dX4_ofJuror_14 (by rw [e5]; decide) (by rw [e5]; decide) (by rw [e5] <;> rfl) (by decide) ?_
      refine v_aload_n C dX4_ofJuror_54 0 rfl ?_
      refine v_get C f_X4_27 dX4_ofJuror_55 0 rfl rfl ?_
      refine v_get C f_X4_81 dX4_ofJuror_58 7 rfl rfl ?_
      refine v_iload_n C dX4_ofJuror_61 1 rfl ?_
      refine v_ialdN C dX4_ofJuror_62 9 rfl jN rfl (by omega) (by decide) ?_
      exact v_reti C hA dX4_ofJuror_63 rfl (⟨by first | (simp only [ojF, bI, zjN, c3, e5, e4, not_false_eq_true, not_true_eq_false, and_self, and_true, true_and, and_false, false_and, ↓reduceIte]; done) | (simp only [ojF, bI, zjN, c3, e5, e4, not_false_eq_true, not_true_eq_false, and_self, and_true, true_and, and_false, false_and, ↓reduceIte]; rfl) | (simp [ojF, bI, zjN, c3, e5, e4]; done) | rfl, by first | (simp only [ojF, bI, zjN, c3, e5, e4, not_false_eq_true, not_true_eq_false, and_self, and_true, true_and, and_false, false_and, ↓reduceIte]; done) | (simp only [ojF, bI, zjN, c3, e5, e4, not_false_eq_true, not_true_eq_false, and_self, and_true, true_and, and_false, false_and, ↓reduceIte]; rfl) | (simp [ojF, bI, zjN, c3, e5, e4]; done) | rfl⟩)
    by_cases e6 : x = 2
    · refine v_tableIn C 64 dX4_ofJuror_14 (by rw [e6]; decide) (by rw [e6]; decide) (by rw [e6] <;> rfl) (by decide) ?_
      refine v_aload_n C dX4_ofJuror_64 0 rfl ?_
      refine v_get C f_X4_27 dX4_ofJuror_65 0 rfl rfl ?_
      refine v_get C f_X4_84 dX4_ofJuror_68 7 rfl rfl ?_
      refine v_iload_n C dX4_ofJuror_71 1 rfl ?_
      refine v_callSi C l_X4_87 (m_X4_bitOf s0 jN (by omega) (by omega)) (by decide) dX4_ofJuror_72 [] rfl rfl (rest := []) rfl (Nat.le_of_ble_eq_true rfl) (by decide) (fun r7 h8 => ?_)
      subst h8
      by_cases c9 : s0.testBit jN = true
      · refine v_eqi 1 (bI_t c9) ?_
        exact v_reti C hA dX4_ofJuror_75 rfl (⟨by first | (simp only [ojF, bI, zjN, c3, e6, c9, e4, e5, not_false_eq_true, not_true_eq_false, and_self, and_true, true_and, and_false, false_and, ↓reduceIte]; done) | (simp only [ojF, bI, zjN, c3, e6, c9, e4, e5, not_false_eq_true, not_true_eq_false, and_self, and_true, true_and, and_false, false_and, ↓reduceIte]; rfl) | (simp [ojF, bI, zjN, c3, e6, c9, e4, e5]; done) | rfl, by first | (simp only [ojF, bI, zjN, c3, e6, c9, e4, e5, not_false_eq_true, not_true_eq_false, and_self, and_true, true_and, and_false, false_and, ↓reduceIte]; done) | (simp only [ojF, bI, zjN, c3, e6, c9, e4, e5, not_false_eq_true, not_true_eq_false, and_self, and_true, true_and, and_false, false_and, ↓reduceIte]; rfl) | (simp [ojF, bI, zjN, c3, e6, c9, e4, e5]; done) | rfl⟩)
      · refine v_eqi 0 (bI_f c9) ?_
        exact v_reti C hA dX4_ofJuror_75 rfl (⟨by first | (simp only [ojF, bI, zjN, c3, e6, c9, e4, e5, not_false_eq_true, not_true_eq_false, and_self, and_true, true_and, and_false, false_and, ↓reduceIte]; done) | (simp only [ojF, bI, zjN, c3, e6, c9, e4, e5, not_false_eq_true, not_true_eq_false, and_self, and_true, true_and, and_false, false_and, ↓reduceIte]; rfl) | (simp [ojF, bI, zjN, c3, e6, c9, e4, e5]; done) | rfl, by first | (simp only [ojF, bI, zjN, c3, e6, c9, e4, e5, not_false_eq_true, not_true_eq_false, and_self, and_true, true_and, and_false, false_and, ↓reduceIte]; done) | (simp only [ojF, bI, zjN, c3, e6, c9, e4, e5, not_false_eq_true, not_true_eq_false, and_self, and_true, true_and, and_false, false_and, ↓reduceIte]; rfl) | (simp [ojF, bI, zjN, c3, e6, c9, e4, e5]; done) | rfl⟩)
    by_cases e10 : x = 3
    · refine v_tableIn C 76 dX4_ofJuror_14 (by rw [e10]; decide) (by rw [e10]; decide) (by rw [e10] <;> rfl) (by decide) ?_
      refine v_aload_n C dX4_ofJuror_76 0 rfl ?_
      refine v_get C f_X4_27 dX4_ofJuror_77 0 rfl rfl ?_
      refine v_get C f_X4_91 dX4_ofJuror_80 7 rfl rfl ?_
      refine v_iload_n C dX4_ofJuror_83 1 rfl ?_
      refine v_callSi C l_X4_87 (m_X4_bitOf st jN (by omega) (by omega)) (by decide) dX4_ofJuror_84 [] rfl rfl (rest := []) rfl (Nat.le_of_ble_eq_true rfl) (by decide) (fun r11 h12 => ?_)
      subst h12
      by_cases c13 : st.testBit jN = true
      · refine v_eqi 1 (bI_t c13) ?_
        exact v_reti C hA dX4_ofJuror_87 rfl (⟨by first | (simp only [ojF, bI, zjN, c3, e10, c13, e4, e5, e6, not_false_eq_true, not_true_eq_false, and_self, and_true, true_and, and_false, false_and, ↓reduceIte]; done) | (simp only [ojF, bI, zjN, c3, e10, c13, e4, e5, e6, not_false_eq_true, not_true_eq_false, and_self, and_true, true_and, and_false, false_and, ↓reduceIte]; rfl) | (simp [ojF, bI, zjN, c3, e10, c13, e4, e5, e6]; done) | rfl, by first | (simp only [ojF, bI, zjN, c3, e10, c13, e4, e5, e6, not_false_eq_true, not_true_eq_false, and_self, and_true, true_and, and_false, false_and, ↓reduceIte]; done) | (simp only [ojF, bI, zjN, c3, e10, c13, e4, e5, e6, not_false_eq_true, not_true_eq_false, and_self, and_true, true_and, and_false, false_and, ↓reduceIte]; rfl) | (simp [ojF, bI, zjN, c3, e10, c13, e4, e5, e6]; done) | rfl⟩)
      · refine v_eqi 0 (bI_f c13) ?_
        exact v_reti C hA dX4_ofJuror_87 rfl (⟨by first | (simp only [ojF, bI, zjN, c3, e10, c13, e4, e5, e6, not_false_eq_true, not_true_eq_false, and_self, and_true, true_and, and_false, false_and, ↓reduceIte]; done) | (simp only [ojF, bI, zjN, c3, e10, c13, e4, e5, e6, not_false_eq_true, not_true_eq_false, and_self, and_true, true_and, and_false, false_and, ↓reduceIte]; rfl) | (simp [ojF, bI, zjN, c3, e10, c13, e4, e5, e6]; done) | rfl, by first | (simp only [ojF, bI, zjN, c3, e10, c13, e4, e5, e6, not_false_eq_true, not_true_eq_false, and_self, and_true, true_and, and_false, false_and, ↓reduceIte]; done) | (simp only [ojF, bI, zjN, c3, e10, c13, e4, e5, e6, not_false_eq_true, not_true_eq_false, and_self, and_true, true_and, and_false, false_and, ↓reduceIte]; rfl) | (simp [ojF, bI, zjN, c3, e10, c13, e4, e5, e6]; done) | rfl⟩)
    refine v_tableOut C 88 dX4_ofJuror_14 (tab_out4 e4 e5 e6 e10) (by decide) ?_
    refine v_bipush C (-2) dX4_ofJuror_88 (by decide) ?_
    exact v_reti C hA dX4_ofJuror_90 rfl (⟨by first | (simp only [ojF, bI, zjN, c3, e4, e5, e6, e10, not_false_eq_true, not_true_eq_false, and_self, and_true, true_and, and_false, false_and, ↓reduceIte]; done) | (simp only [ojF, bI, zjN, c3, e4, e5, e6, e10, not_false_eq_true, not_true_eq_false, and_self, and_true, true_and, and_false, false_and, ↓reduceIte]; rfl) | (simp [ojF, bI, zjN, c3, e4, e5, e6, e10]; done) | rfl, by first | (simp only [ojF, bI, zjN, c3, e4, e5, e6, e10, not_false_eq_true, not_true_eq_false, and_self, and_true, true_and, and_false, false_and, ↓reduceIte]; done) | (simp only [ojF, bI, zjN, c3, e4, e5, e6, e10, not_false_eq_true, not_true_eq_false, and_self, and_true, true_and, and_false, false_and, ↓reduceIte]; rfl) | (simp [ojF, bI, zjN, c3, e4, e5, e6, e10]; done) | rfl⟩)
  · refine v_eqi 0 (bI_f c3) ?_
    refine v_if_ne C 13 dX4_ofJuror_8 (by decide) (fun h => absurd h (by decide)) (fun _ => ?_)
    refine v_iconst C (-1) dX4_ofJuror_11 (by decide) ?_
    exact v_reti C hA dX4_ofJuror_12 rfl (⟨by first | (simp only [ojF, bI, c3, not_false_eq_true, not_true_eq_false, and_self, and_true, true_and, and_false, false_and, ↓reduceIte]; done) | (simp only [ojF, bI, c3, not_false_eq_true, not_true_eq_false, and_self, and_true, true_and, and_false, false_and, ↓reduceIte]; rfl) | (simp [ojF, bI, c3]; done) | rfl, by first | (simp only [ojF, bI, c3, not_false_eq_true, not_true_eq_false, and_self, and_true, true_and, and_false, false_and, ↓reduceIte]; done) | (simp only [ojF, bI, c3, not_false_eq_true, not_true_eq_false, and_self, and_true, true_and, and_false, false_and, ↓reduceIte]; rfl) | (simp [ojF, bI, c3]; done) | rfl⟩)
set_option maxHeartbeats 4000000 in
set_option maxRecDepth 100000 in
theorem m_X4_ofCase {l : Launch} {D : va_G} {cI cB cS : ClassId} (a : Nat → Nat) (nj nc wl s0 st nr : Nat) (tr : Int32) (fa : Int32) (bo : Nat → Int32) (ln : Int32) (lw : Int32) (ss : Int32) (sx : Int32) (un : Int32) (en : Int32) (se : Int32) (tk : Nat → Int32) (od : Nat → Int32) (ve : Nat → Int32) (vd : Nat → Int32) (si : Int32) (kd : Nat → Int32) (ag : Nat → Int32) (de : Nat → Int32) (ta : Nat → Int32) (we : Nat → Int32) (rC : Nat → Int32) (rH : Nat → Int32) (c : Int32) (x : Int32) (hnj : nj ≤ 5) (hnc : nc ≤ 5) (hlw : wl < 64) (hs0 : s0 < 2 ^ nj) (hst2 : st < 2 ^ nj) (hp5 : 2 ^ nj ≤ 32) (hnr : nr ≤ 8) : Mi l yX4_ofCase cX4_ofCase 3 (some .int) 1 21 D cI cB cS [.ref (a 0), .int c, .int x] [oC a tr fa, ia (a 5) cI 5 bo, oT a ln lw ss sx un en se, ia (a 31) cI 5 tk, ia (a 32) cI 5 od, ia (a 33) cI 5 ve, ia (a 34) cI 6 vd, oK a si (nI nj) (nI nc) (nI wl) (nI s0) (nI st) (nI nr), ia (a 20) cI 5 kd, ia (a 21) cI 5 ag, ia (a 22) cI 5 de, ia (a 23) cI 5 ta, ia (a 24) cI 5 we, ia (a 25) cI 8 rC, ia (a 26) cI 8 rH] (fun r w => r = ocF nc de ta we c x ∧ w = [oC a tr fa, ia (a 5) cI 5 bo, oT a ln lw ss sx un en se, ia (a 31) cI 5 tk, ia (a 32) cI 5 od, ia (a 33) cI 5 ve, ia (a 34) cI 6 vd, oK a si (nI nj) (nI nc) (nI wl) (nI s0) (nI st) (nI nr), ia (a 20) cI 5 kd, ia (a 21) cI 5 ag, ia (a 22) cI 5 de, ia (a 23) cI 5 ta, ia (a 24) cI 5 we, ia (a 25) cI 8 rC, ia (a 26) cI 8 rH]) := by
  refine Mi.of (by decide) (Nat.le_of_ble_eq_true rfl) ?_
  intro zp ze zs zm zb zt zc zz zA hA C hnm
  refine v_lv0 [(0, .ref (a 0)), (1, .int c), (2, .int x)] rfl ?_
  refine v_aload_n C dX4_ofCase_0 0 rfl ?_
  refine v_get C f_X4_27 dX4_ofCase_1 0 rfl rfl ?_
  refine v_iload_n C dX4_ofCase_4 1 rfl ?_
  refine v_callRi C l_X4_94 (m_X0_isCase a si (nI nj) (nI nc) (nI wl) (nI s0) (nI st) (nI nr) c) (by decide) dX4_ofCase_5 [7] rfl 7 rfl rfl rfl (rest := []) rfl (Nat.le_of_ble_eq_true rfl) (by decide) (fun r1 h2 => ?_)
  subst h2
  by_cases c3 : ¬ c < 0 ∧ ¬ (nI nc) ≤ c
  · refine v_eqi 1 (bI_t c3) ?_
    refine v_if_ne C 13 dX4_ofCase_8 (by decide) (fun _ => ?_) (fun h => absurd h (by decide))
    obtain ⟨cN, hcN, rfl⟩ := ix_of' (by omega) c3
    have zcN : (nI cN).toNatClampNeg = cN := nI_clamp (by omega)
    refine v_iload_n C dX4_ofCase_13 2 rfl ?_
    by_cases e4 : x = 0
    · refine v_tableIn C 40 dX4_ofCase_14 (by rw [e4]; decide) (by rw [e4]; decide) (by rw [e4] <;> rfl) (by decide) ?_
      refine v_aload_n C dX4_ofCase_40 0 rfl ?_
      refine v_get C f_X4_27 dX4_ofCase_41 0 rfl rfl ?_
      refine v_get C f_X4_97 dX4_ofCase_44 7 rfl rfl ?_
      refine v_iload_n C dX4_ofCase_47 1 rfl ?_
      refine v_ialdN C dX4_ofCase_48 10 rfl cN rfl (by omega) (by decide) ?_
      exact v_reti C hA dX4_ofCase_49 rfl (⟨by first | (simp only [ocF, bI, zcN, c3, e4, not_false_eq_true, not_true_eq_false, and_self, and_true, true_and, and_false, false_and, ↓reduceIte]; done) | (simp only [ocF, bI, zcN, c3, e4, not_false_eq_true, not_true_eq_false, and_self, and_true, true_and, and_false, false_and, ↓reduceIte]; rfl) | (simp [ocF, bI, zcN, c3, e4]; done) | rfl, by first | (simp only [ocF, bI, zcN, c3, e4, not_false_eq_true, not_true_eq_false, and_self, and_true, true_and, and_false, false_and, ↓reduceIte]; done) | (simp only [ocF, bI, zcN, c3, e4, not_false_eq_true, not_true_eq_false, and_self, and_true, true_and, and_false, false_and, ↓reduceIte]; rfl) | (simp [ocF, bI, zcN, c3, e4]; done) | rfl⟩)
    by_cases e5 : x = 1
    · refine v_tableIn C 50 dX4_ofCase_14 (by rw [e5]; decide) (by rw [e5]; decide) (by rw [e5] <;> rfl) (by decide) ?_
      refine v_aload_n C dX4_ofCase_50 0 rfl ?_
      refine v_get C f_X4_27 dX4_ofCase_51 0 rfl rfl ?_
      refine v_get C f_X4_100 dX4_ofCase_54 7 rfl rfl ?_
      refine v_iload_n C dX4_ofCase_57 1 rfl ?_
      refine v_ialdN C dX4_ofCase_58 11 rfl cN rfl (by omega) (by decide) ?_
      exact v_reti C hA dX4_ofCase_59 rfl (⟨by first | (simp only [ocF, bI, zcN, c3, e5, e4, not_false_eq_true, not_true_eq_false, and_self, and_true, true_and, and_false, false_and, ↓reduceIte]; done) | (simp only [ocF, bI, zcN, c3, e5, e4, not_false_eq_true, not_true_eq_false, and_self, and_true, true_and, and_false, false_and, ↓reduceIte]; rfl) | (simp [ocF, bI, zcN, c3, e5, e4]; done) | rfl, by first | (simp only [ocF, bI, zcN, c3, e5, e4, not_false_eq_true, not_true_eq_false, and_self, and_true, true_and, and_false, false_and, ↓reduceIte]; done) | (simp only [ocF, bI, zcN, c3, e5, e4, not_false_eq_true, not_true_eq_false, and_self, and_true, true_and, and_false, false_and, ↓reduceIte]; rfl) | (simp [ocF, bI, zcN, c3, e5, e4]; done) | rfl⟩)
    by_cases e6 : x = 2
    · refine v_tableIn C 60 dX4_ofCase_14 (by rw [e6]; decide) (by rw [e6]; decide) (by rw [e6] <;> rfl) (by decide) ?_
      refine v_aload_n C dX4_ofCase_60 0 rfl ?_
      refine v_get C f_X4_27 dX4_ofCase_61 0 rfl rfl ?_
      refine v_get C f_X4_103 dX4_ofCase_64 7 rfl rfl ?_
      refine v_iload_n C dX4_ofCase_67 1 rfl ?_
      refine v_ialdN C dX4_ofCase_68 12 rfl cN rfl (by omega) (by decide) ?_
      exact v_reti C hA dX4_ofCase_69 rfl (⟨by first | (simp only [ocF, bI, zcN, c3, e6, e4, e5, not_false_eq_true, not_true_eq_false, and_self, and_true, true_and, and_false, false_and, ↓reduceIte]; done) | (simp only [ocF, bI, zcN, c3, e6, e4, e5, not_false_eq_true, not_true_eq_false, and_self, and_true, true_and, and_false, false_and, ↓reduceIte]; rfl) | (simp [ocF, bI, zcN, c3, e6, e4, e5]; done) | rfl, by first | (simp only [ocF, bI, zcN, c3, e6, e4, e5, not_false_eq_true, not_true_eq_false, and_self, and_true, true_and, and_false, false_and, ↓reduceIte]; done) | (simp only [ocF, bI, zcN, c3, e6, e4, e5, not_false_eq_true, not_true_eq_false, and_self, and_true, true_and, and_false, false_and, ↓reduceIte]; rfl) | (simp [ocF, bI, zcN, c3, e6, e4, e5]; done) | rfl⟩)
    refine v_tableOut C 70 dX4_ofCase_14 (tab_out3 e4 e5 e6) (by decide) ?_
    refine v_bipush C (-2) dX4_ofCase_70 (by decide) ?_
    exact v_reti C hA dX4_ofCase_72 rfl (⟨by first | (simp only [ocF, bI, zcN, c3, e4, e5, e6, not_false_eq_true, not_true_eq_false, and_self, and_true, true_and, and_false, false_and, ↓reduceIte]; done) | (simp only [ocF, bI, zcN, c3, e4, e5, e6, not_false_eq_true, not_true_eq_false, and_self, and_true, true_and, and_false, false_and, ↓reduceIte]; rfl) | (simp [ocF, bI, zcN, c3, e4, e5, e6]; done) | rfl, by first | (simp only [ocF, bI, zcN, c3, e4, e5, e6, not_false_eq_true, not_true_eq_false, and_self, and_true, true_and, and_false, false_and, ↓reduceIte]; done) | (simp only [ocF, bI, zcN, c3, e4, e5, e6, not_false_eq_true, not_true_eq_false, and_self, and_true, true_and, and_false, false_and, ↓reduceIte]; rfl) | (simp [ocF, bI, zcN, c3, e4, e5, e6]; done) | rfl⟩)
  · refine v_eqi 0 (bI_f c3) ?_
    refine v_if_ne C 13 dX4_ofCase_8 (by decide) (fun h => absurd h (by decide)) (fun _ => ?_)
    refine v_iconst C (-1) dX4_ofCase_11 (by decide) ?_
    exact v_reti C hA dX4_ofCase_12 rfl (⟨by first | (simp only [ocF, bI, c3, not_false_eq_true, not_true_eq_false, and_self, and_true, true_and, and_false, false_and, ↓reduceIte]; done) | (simp only [ocF, bI, c3, not_false_eq_true, not_true_eq_false, and_self, and_true, true_and, and_false, false_and, ↓reduceIte]; rfl) | (simp [ocF, bI, c3]; done) | rfl, by first | (simp only [ocF, bI, c3, not_false_eq_true, not_true_eq_false, and_self, and_true, true_and, and_false, false_and, ↓reduceIte]; done) | (simp only [ocF, bI, c3, not_false_eq_true, not_true_eq_false, and_self, and_true, true_and, and_false, false_and, ↓reduceIte]; rfl) | (simp [ocF, bI, c3]; done) | rfl⟩)
set_option maxHeartbeats 4000000 in
set_option maxRecDepth 100000 in
theorem m_X4_chalk {l : Launch} {D : va_G} {cI cB cS : ClassId} (a : Nat → Nat) (nj nc wl s0 st nr : Nat) (tr : Int32) (fa : Int32) (bo : Nat → Int32) (ln : Int32) (lw : Int32) (ss : Int32) (sx : Int32) (un : Int32) (en : Int32) (se : Int32) (tk : Nat → Int32) (od : Nat → Int32) (ve : Nat → Int32) (vd : Nat → Int32) (si : Int32) (kd : Nat → Int32) (ag : Nat → Int32) (de : Nat → Int32) (ta : Nat → Int32) (we : Nat → Int32) (rC : Nat → Int32) (rH : Nat → Int32) (x : Int32) (hnj : nj ≤ 5) (hnc : nc ≤ 5) (hlw : wl < 64) (hs0 : s0 < 2 ^ nj) (hst2 : st < 2 ^ nj) (hp5 : 2 ^ nj ≤ 32) (hnr : nr ≤ 8) : Mi l yX4_chalk cX4_chalk 3 (some .int) 1 20 D cI cB cS [.ref (a 0), .int x] [oC a tr fa, ia (a 5) cI 5 bo, oT a ln lw ss sx un en se, ia (a 31) cI 5 tk, ia (a 32) cI 5 od, ia (a 33) cI 5 ve, ia (a 34) cI 6 vd, oK a si (nI nj) (nI nc) (nI wl) (nI s0) (nI st) (nI nr), ia (a 20) cI 5 kd, ia (a 21) cI 5 ag, ia (a 22) cI 5 de, ia (a 23) cI 5 ta, ia (a 24) cI 5 we, ia (a 25) cI 8 rC, ia (a 26) cI 8 rH] (fun r w => r = ckF nc wl x ∧ w = [oC a tr fa, ia (a 5) cI 5 bo, oT a ln lw ss sx un en se, ia (a 31) cI 5 tk, ia (a 32) cI 5 od, ia (a 33) cI 5 ve, ia (a 34) cI 6 vd, oK a si (nI nj) (nI nc) (nI (ckW nc wl x)) (nI s0) (nI st) (nI nr), ia (a 20) cI 5 kd, ia (a 21) cI 5 ag, ia (a 22) cI 5 de, ia (a 23) cI 5 ta, ia (a 24) cI 5 we, ia (a 25) cI 8 rC, ia (a 26) cI 8 rH]) := by
  refine Mi.of (by decide) (Nat.le_of_ble_eq_true rfl) ?_
  intro zp ze zs zm zb zt zc zz zA hA C hnm
  refine v_lv0 [(0, .ref (a 0)), (1, .int x)] rfl ?_
  refine v_iload_n C dX4_chalk_0 1 rfl ?_
  refine v_if_lt C 10 dX4_chalk_1 (by decide) (fun c1 => ?_) (fun c1 => ?_)
  · refine v_bipush C (-2) dX4_chalk_10 (by decide) ?_
    exact v_reti C hA dX4_chalk_12 rfl (⟨by first | (simp only [ckF, ckW, bI, c1, not_false_eq_true, not_true_eq_false, and_self, and_true, true_and, and_false, false_and, ↓reduceIte]; done) | (simp only [ckF, ckW, bI, c1, not_false_eq_true, not_true_eq_false, and_self, and_true, true_and, and_false, false_and, ↓reduceIte]; rfl) | (simp [ckF, ckW, bI, c1]; done) | rfl, by first | (simp only [ckF, ckW, bI, c1, not_false_eq_true, not_true_eq_false, and_self, and_true, true_and, and_false, false_and, ↓reduceIte]; done) | (simp only [ckF, ckW, bI, c1, not_false_eq_true, not_true_eq_false, and_self, and_true, true_and, and_false, false_and, ↓reduceIte]; rfl) | (simp [ckF, ckW, bI, c1]; done) | rfl⟩)
  · refine v_iload_n C dX4_chalk_4 1 rfl ?_
    refine v_bipush C 64 dX4_chalk_5 (by decide) ?_
    refine v_icmp_lt C 13 dX4_chalk_7 (by decide) (fun c2 => ?_) (fun c2 => ?_)
    · refine v_aload_n C dX4_chalk_13 0 rfl ?_
      refine v_get C f_X4_27 dX4_chalk_14 0 rfl rfl ?_
      refine v_callRi C l_X4_106 (m_X0_stands a si (nI nj) (nI nc) (nI wl) (nI s0) (nI st) (nI nr)) (by decide) dX4_chalk_17 [7] rfl 7 rfl rfl rfl (rest := []) rfl (Nat.le_of_ble_eq_true rfl) (by decide) (fun r3 h4 => ?_)
      subst h4
      by_cases c5 : ¬ (nI nc) ≤ 0
      · refine v_eqi 1 (bI_t c5) ?_
        refine v_if_ne C 26 dX4_chalk_20 (by decide) (fun _ => ?_) (fun h => absurd h (by decide))
        refine v_aload_n C dX4_chalk_26 0 rfl ?_
        refine v_get C f_X4_27 dX4_chalk_27 0 rfl rfl ?_
        refine v_get C f_X4_110 dX4_chalk_30 7 rfl rfl ?_
        refine v_istore_n C [(2, .int (nI wl)), (0, .ref (a 0)), (1, .int x)] dX4_chalk_33 (by decide) rfl ?_
        obtain ⟨xN, hxN, rfl⟩ := ix_of (n := 64) (by omega) (Int32.not_lt.mp c1) c2
        have zxN : (nI xN).toNatClampNeg = xN := nI_clamp (by omega)
        refine v_aload_n C dX4_chalk_34 1 rfl ?_
        refine v_get C f_X4_27 dX4_chalk_35 0 rfl rfl ?_
        refine v_iload_n C dX4_chalk_38 2 rfl ?_
        refine v_put C p_X4_110 [oC a tr fa, ia (a 5) cI 5 bo, oT a ln lw ss sx un en se, ia (a 31) cI 5 tk, ia (a 32) cI 5 od, ia (a 33) cI 5 ve, ia (a 34) cI 6 vd, oK a si (nI nj) (nI nc) (nI xN) (nI s0) (nI st) (nI nr), ia (a 20) cI 5 kd, ia (a 21) cI 5 ag, ia (a 22) cI 5 de, ia (a 23) cI 5 ta, ia (a 24) cI 5 we, ia (a 25) cI 8 rC, ia (a 26) cI 8 rH] dX4_chalk_39 7 rfl rfl rfl (Nat.le_of_ble_eq_true rfl) rfl ?_
        refine v_iload_n C dX4_chalk_42 0 rfl ?_
        exact v_reti C hA dX4_chalk_43 rfl (⟨by first | (simp only [ckF, ckW, bI, zxN, c1, c2, c5, not_false_eq_true, not_true_eq_false, and_self, and_true, true_and, and_false, false_and, ↓reduceIte]; done) | (simp only [ckF, ckW, bI, zxN, c1, c2, c5, not_false_eq_true, not_true_eq_false, and_self, and_true, true_and, and_false, false_and, ↓reduceIte]; rfl) | (simp [ckF, ckW, bI, zxN, c1, c2, c5]; done) | rfl, by first | (simp only [ckF, ckW, bI, zxN, c1, c2, c5, not_false_eq_true, not_true_eq_false, and_self, and_true, true_and, and_false, false_and, ↓reduceIte]; done) | (simp only [ckF, ckW, bI, zxN, c1, c2, c5, not_false_eq_true, not_true_eq_false, and_self, and_true, true_and, and_false, false_and, ↓reduceIte]; rfl) | (simp [ckF, ckW, bI, zxN, c1, c2, c5]; done) | rfl⟩)
      · refine v_eqi 0 (bI_f c5) ?_
        refine v_if_ne C 26 dX4_chalk_20 (by decide) (fun h => absurd h (by decide)) (fun _ => ?_)
        refine v_bipush C (-3) dX4_chalk_23 (by decide) ?_
        exact v_reti C hA dX4_chalk_25 rfl (⟨by first | (simp only [ckF, ckW, bI, c1, c2, Classical.not_not.mp c5, not_false_eq_true, not_true_eq_false, and_self, and_true, true_and, and_false, false_and, ↓reduceIte]; done) | (simp only [ckF, ckW, bI, c1, c2, Classical.not_not.mp c5, not_false_eq_true, not_true_eq_false, and_self, and_true, true_and, and_false, false_and, ↓reduceIte]; rfl) | (simp [ckF, ckW, bI, c1, c2, Classical.not_not.mp c5]; done) | rfl, by first | (simp only [ckF, ckW, bI, c1, c2, Classical.not_not.mp c5, not_false_eq_true, not_true_eq_false, and_self, and_true, true_and, and_false, false_and, ↓reduceIte]; done) | (simp only [ckF, ckW, bI, c1, c2, Classical.not_not.mp c5, not_false_eq_true, not_true_eq_false, and_self, and_true, true_and, and_false, false_and, ↓reduceIte]; rfl) | (simp [ckF, ckW, bI, c1, c2, Classical.not_not.mp c5]; done) | rfl⟩)
    · refine v_bipush C (-2) dX4_chalk_10 (by decide) ?_
      exact v_reti C hA dX4_chalk_12 rfl (⟨by first | (simp only [ckF, ckW, bI, c1, c2, not_false_eq_true, not_true_eq_false, and_self, and_true, true_and, and_false, false_and, ↓reduceIte]; done) | (simp only [ckF, ckW, bI, c1, c2, not_false_eq_true, not_true_eq_false, and_self, and_true, true_and, and_false, false_and, ↓reduceIte]; rfl) | (simp [ckF, ckW, bI, c1, c2]; done) | rfl, by first | (simp only [ckF, ckW, bI, c1, c2, not_false_eq_true, not_true_eq_false, and_self, and_true, true_and, and_false, false_and, ↓reduceIte]; done) | (simp only [ckF, ckW, bI, c1, c2, not_false_eq_true, not_true_eq_false, and_self, and_true, true_and, and_false, false_and, ↓reduceIte]; rfl) | (simp [ckF, ckW, bI, c1, c2]; done) | rfl⟩)
set_option maxHeartbeats 4000000 in
set_option maxRecDepth 100000 in
theorem m_X4_treat {l : Launch} {D : va_G} {cI cB cS : ClassId} (a : Nat → Nat) (nj nc wl s0 st nr : Nat) (tr : Int32) (fa : Int32) (bo : Nat → Int32) (ln : Int32) (lw : Int32) (ss : Int32) (sx : Int32) (un : Int32) (en : Int32) (se : Int32) (tk : Nat → Int32) (od : Nat → Int32) (ve : Nat → Int32) (vd : Nat → Int32) (si : Int32) (kd : Nat → Int32) (ag : Nat → Int32) (de : Nat → Int32) (ta : Nat → Int32) (we : Nat → Int32) (rC : Nat → Int32) (rH : Nat → Int32) (j : Int32) (is : Int32) (hnj : nj ≤ 5) (hnc : nc ≤ 5) (hlw : wl < 64) (hs0 : s0 < 2 ^ nj) (hst2 : st < 2 ^ nj) (hp5 : 2 ^ nj ≤ 32) (hnr : nr ≤ 8) : Mi l yX4_treat cX4_treat 4 (some .int) 1 22 D cI cB cS [.ref (a 0), .int j, .int is] [oC a tr fa, ia (a 5) cI 5 bo, oT a ln lw ss sx un en se, ia (a 31) cI 5 tk, ia (a 32) cI 5 od, ia (a 33) cI 5 ve, ia (a 34) cI 6 vd, oK a si (nI nj) (nI nc) (nI wl) (nI s0) (nI st) (nI nr), ia (a 20) cI 5 kd, ia (a 21) cI 5 ag, ia (a 22) cI 5 de, ia (a 23) cI 5 ta, ia (a 24) cI 5 we, ia (a 25) cI 8 rC, ia (a 26) cI 8 rH] (fun r w => r = trF nj s0 j is ∧ w = [oC a tr fa, ia (a 5) cI 5 bo, oT a ln lw ss sx un en se, ia (a 31) cI 5 tk, ia (a 32) cI 5 od, ia (a 33) cI 5 ve, ia (a 34) cI 6 vd, oK a si (nI nj) (nI nc) (nI wl) (nI (trW nj s0 j is)) (nI st) (nI nr), ia (a 20) cI 5 kd, ia (a 21) cI 5 ag, ia (a 22) cI 5 de, ia (a 23) cI 5 ta, ia (a 24) cI 5 we, ia (a 25) cI 8 rC, ia (a 26) cI 8 rH]) := by
  refine Mi.of (by decide) (Nat.le_of_ble_eq_true rfl) ?_
  intro zp ze zs zm zb zt zc zz zA hA C hnm
  refine v_lv0 [(0, .ref (a 0)), (1, .int j), (2, .int is)] rfl ?_
  refine v_aload_n C dX4_treat_0 0 rfl ?_
  refine v_get C f_X4_27 dX4_treat_1 0 rfl rfl ?_
  refine v_iload_n C dX4_treat_4 1 rfl ?_
  refine v_callRi C l_X4_75 (m_X0_isJuror a si (nI nj) (nI nc) (nI wl) (nI s0) (nI st) (nI nr) j) (by decide) dX4_treat_5 [7] rfl 7 rfl rfl rfl (rest := []) rfl (Nat.le_of_ble_eq_true rfl) (by decide) (fun r1 h2 => ?_)
  subst h2
  by_cases c3 : ¬ j < 0 ∧ ¬ (nI nj) ≤ j
  · refine v_eqi 1 (bI_t c3) ?_
    refine v_if_ne C 13 dX4_treat_8 (by decide) (fun _ => ?_) (fun h => absurd h (by decide))
    obtain ⟨jN, hjN, rfl⟩ := ix_of' (by omega) c3
    have zjN : (nI jN).toNatClampNeg = jN := nI_clamp (by omega)
    refine v_aload_n C dX4_treat_13 0 rfl ?_
    refine v_get C f_X4_27 dX4_treat_14 0 rfl rfl ?_
    refine v_get C f_X4_84 dX4_treat_17 7 rfl rfl ?_
    refine v_istore_n C [(3, .int (nI s0)), (0, .ref (a 0)), (1, .int (nI jN)), (2, .int is)] dX4_treat_20 (by decide) rfl ?_
    refine v_aload_n C dX4_treat_21 1 rfl ?_
    refine v_get C f_X4_27 dX4_treat_22 0 rfl rfl ?_
    refine v_iload_n C dX4_treat_25 0 rfl ?_
    refine v_iload_n C dX4_treat_26 2 rfl ?_
    refine v_iload_n C dX4_treat_27 3 rfl ?_
    refine v_callSi C l_X4_113 (m_X4_withBit s0 jN is (by omega) (by omega)) (by decide) dX4_treat_28 [] rfl rfl (rest := [.ref (a 3)]) rfl (Nat.le_of_ble_eq_true rfl) (by decide) (fun r4 h5 => ?_)
    subst h5
    refine v_put C p_X4_84 [oC a tr fa, ia (a 5) cI 5 bo, oT a ln lw ss sx un en se, ia (a 31) cI 5 tk, ia (a 32) cI 5 od, ia (a 33) cI 5 ve, ia (a 34) cI 6 vd, oK a si (nI nj) (nI nc) (nI wl) (nI (wbN s0 jN is)) (nI st) (nI nr), ia (a 20) cI 5 kd, ia (a 21) cI 5 ag, ia (a 22) cI 5 de, ia (a 23) cI 5 ta, ia (a 24) cI 5 we, ia (a 25) cI 8 rC, ia (a 26) cI 8 rH] dX4_treat_31 7 rfl rfl rfl (Nat.le_of_ble_eq_true rfl) rfl ?_
    refine v_aload_n C dX4_treat_34 1 rfl ?_
    refine v_get C f_X4_27 dX4_treat_35 0 rfl rfl ?_
    refine v_get C f_X4_84 dX4_treat_38 7 rfl rfl ?_
    refine v_iload_n C dX4_treat_41 0 rfl ?_
    have hwl := wbN_lt (m := s0) (j := jN) (by omega) (by omega) is
    refine v_icmp_ne C 49 dX4_treat_42 (by decide) (fun c6 => ?_) (fun c6 => ?_)
    · have nc6 : (wbN s0 jN is) ≠ s0 := fun q => c6 (by rw [q])
      refine v_iconst C 1 dX4_treat_49 (by decide) ?_
      exact v_reti C hA dX4_treat_50 rfl (⟨by first | (simp only [trF, trW, bI, zjN, c3, c6, nc6, nc6, not_false_eq_true, not_true_eq_false, and_self, and_true, true_and, and_false, false_and, ↓reduceIte]; done) | (simp only [trF, trW, bI, zjN, c3, c6, nc6, nc6, not_false_eq_true, not_true_eq_false, and_self, and_true, true_and, and_false, false_and, ↓reduceIte]; rfl) | (simp [trF, trW, bI, zjN, c3, c6, nc6, nc6]; done) | rfl, by first | (simp only [trF, trW, bI, zjN, c3, c6, nc6, nc6, not_false_eq_true, not_true_eq_false, and_self, and_true, true_and, and_false, false_and, ↓reduceIte]; done) | (simp only [trF, trW, bI, zjN, c3, c6, nc6, nc6, not_false_eq_true, not_true_eq_false, and_self, and_true, true_and, and_false, false_and, ↓reduceIte]; rfl) | (simp [trF, trW, bI, zjN, c3, c6, nc6, nc6]; done) | rfl⟩)
    · have nc6 : (wbN s0 jN is) = s0 := nI_eqP c6 (by omega) (by omega)
      refine v_iconst C 0 dX4_treat_45 (by decide) ?_
      refine v_goto C 50 dX4_treat_46 (by decide) ?_
      exact v_reti C hA dX4_treat_50 rfl (⟨by first | (simp only [trF, trW, bI, zjN, c3, c6, nc6, nc6, not_false_eq_true, not_true_eq_false, and_self, and_true, true_and, and_false, false_and, ↓reduceIte]; done) | (simp only [trF, trW, bI, zjN, c3, c6, nc6, nc6, not_false_eq_true, not_true_eq_false, and_self, and_true, true_and, and_false, false_and, ↓reduceIte]; rfl) | (simp [trF, trW, bI, zjN, c3, c6, nc6, nc6]; done) | rfl, by first | (simp only [trF, trW, bI, zjN, c3, c6, nc6, nc6, not_false_eq_true, not_true_eq_false, and_self, and_true, true_and, and_false, false_and, ↓reduceIte]; done) | (simp only [trF, trW, bI, zjN, c3, c6, nc6, nc6, not_false_eq_true, not_true_eq_false, and_self, and_true, true_and, and_false, false_and, ↓reduceIte]; rfl) | (simp [trF, trW, bI, zjN, c3, c6, nc6, nc6]; done) | rfl⟩)
  · refine v_eqi 0 (bI_f c3) ?_
    refine v_if_ne C 13 dX4_treat_8 (by decide) (fun h => absurd h (by decide)) (fun _ => ?_)
    refine v_iconst C (-1) dX4_treat_11 (by decide) ?_
    exact v_reti C hA dX4_treat_12 rfl (⟨by first | (simp only [trF, trW, bI, c3, not_false_eq_true, not_true_eq_false, and_self, and_true, true_and, and_false, false_and, ↓reduceIte]; done) | (simp only [trF, trW, bI, c3, not_false_eq_true, not_true_eq_false, and_self, and_true, true_and, and_false, false_and, ↓reduceIte]; rfl) | (simp [trF, trW, bI, c3]; done) | rfl, by first | (simp only [trF, trW, bI, c3, not_false_eq_true, not_true_eq_false, and_self, and_true, true_and, and_false, false_and, ↓reduceIte]; done) | (simp only [trF, trW, bI, c3, not_false_eq_true, not_true_eq_false, and_self, and_true, true_and, and_false, false_and, ↓reduceIte]; rfl) | (simp [trF, trW, bI, c3]; done) | rfl⟩)
set_option maxHeartbeats 4000000 in
set_option maxRecDepth 100000 in
theorem m_X4_strike {l : Launch} {D : va_G} {cI cB cS : ClassId} (a : Nat → Nat) (nj nc wl s0 st nr : Nat) (tr : Int32) (fa : Int32) (bo : Nat → Int32) (ln : Int32) (lw : Int32) (ss : Int32) (sx : Int32) (un : Int32) (en : Int32) (se : Int32) (tk : Nat → Int32) (od : Nat → Int32) (ve : Nat → Int32) (vd : Nat → Int32) (si : Int32) (kd : Nat → Int32) (ag : Nat → Int32) (de : Nat → Int32) (ta : Nat → Int32) (we : Nat → Int32) (rC : Nat → Int32) (rH : Nat → Int32) (j : Int32) (is : Int32) (hnj : nj ≤ 5) (hnc : nc ≤ 5) (hlw : wl < 64) (hs0 : s0 < 2 ^ nj) (hst2 : st < 2 ^ nj) (hp5 : 2 ^ nj ≤ 32) (hnr : nr ≤ 8) : Mi l yX4_strike cX4_strike 4 (some .int) 1 22 D cI cB cS [.ref (a 0), .int j, .int is] [oC a tr fa, ia (a 5) cI 5 bo, oT a ln lw ss sx un en se, ia (a 31) cI 5 tk, ia (a 32) cI 5 od, ia (a 33) cI 5 ve, ia (a 34) cI 6 vd, oK a si (nI nj) (nI nc) (nI wl) (nI s0) (nI st) (nI nr), ia (a 20) cI 5 kd, ia (a 21) cI 5 ag, ia (a 22) cI 5 de, ia (a 23) cI 5 ta, ia (a 24) cI 5 we, ia (a 25) cI 8 rC, ia (a 26) cI 8 rH] (fun r w => r = trF nj st j is ∧ w = [oC a tr fa, ia (a 5) cI 5 bo, oT a ln lw ss sx un en se, ia (a 31) cI 5 tk, ia (a 32) cI 5 od, ia (a 33) cI 5 ve, ia (a 34) cI 6 vd, oK a si (nI nj) (nI nc) (nI wl) (nI s0) (nI (trW nj st j is)) (nI nr), ia (a 20) cI 5 kd, ia (a 21) cI 5 ag, ia (a 22) cI 5 de, ia (a 23) cI 5 ta, ia (a 24) cI 5 we, ia (a 25) cI 8 rC, ia (a 26) cI 8 rH]) := by
  refine Mi.of (by decide) (Nat.le_of_ble_eq_true rfl) ?_
  intro zp ze zs zm zb zt zc zz zA hA C hnm
  refine v_lv0 [(0, .ref (a 0)), (1, .int j), (2, .int is)] rfl ?_
  refine v_aload_n C dX4_strike_0 0 rfl ?_
  refine v_get C f_X4_27 dX4_strike_1 0 rfl rfl ?_
  refine v_iload_n C dX4_strike_4 1 rfl ?_
  refine v_callRi C l_X4_75 (m_X0_isJuror a si (nI nj) (nI nc) (nI wl) (nI s0) (nI st) (nI nr) j) (by decide) dX4_strike_5 [7] rfl 7 rfl rfl rfl (rest := []) rfl (Nat.le_of_ble_eq_true rfl) (by decide) (fun r1 h2 => ?_)
  subst h2
  by_cases c3 : ¬ j < 0 ∧ ¬ (nI nj) ≤ j
  · refine v_eqi 1 (bI_t c3) ?_
    refine v_if_ne C 13 dX4_strike_8 (by decide) (fun _ => ?_) (fun h => absurd h (by decide))
    obtain ⟨jN, hjN, rfl⟩ := ix_of' (by omega) c3
    have zjN : (nI jN).toNatClampNeg = jN := nI_clamp (by omega)
    refine v_aload_n C dX4_strike_13 0 rfl ?_
    refine v_get C f_X4_27 dX4_strike_14 0 rfl rfl ?_
    refine v_get C f_X4_91 dX4_strike_17 7 rfl rfl ?_
    refine v_istore_n C [(3, .int (nI st)), (0, .ref (a 0)), (1, .int (nI jN)), (2, .int is)] dX4_strike_20 (by decide) rfl ?_
    refine v_aload_n C dX4_strike_21 1 rfl ?_
    refine v_get C f_X4_27 dX4_strike_22 0 rfl rfl ?_
    refine v_iload_n C dX4_strike_25 0 rfl ?_
    refine v_iload_n C dX4_strike_26 2 rfl ?_
    refine v_iload_n C dX4_strike_27 3 rfl ?_
    refine v_callSi C l_X4_113 (m_X4_withBit st jN is (by omega) (by omega)) (by decide) dX4_strike_28 [] rfl rfl (rest := [.ref (a 3)]) rfl (Nat.le_of_ble_eq_true rfl) (by decide) (fun r4 h5 => ?_)
    subst h5
    refine v_put C p_X4_91 [oC a tr fa, ia (a 5) cI 5 bo, oT a ln lw ss sx un en se, ia (a 31) cI 5 tk, ia (a 32) cI 5 od, ia (a 33) cI 5 ve, ia (a 34) cI 6 vd, oK a si (nI nj) (nI nc) (nI wl) (nI s0) (nI (wbN st jN is)) (nI nr), ia (a 20) cI 5 kd, ia (a 21) cI 5 ag, ia (a 22) cI 5 de, ia (a 23) cI 5 ta, ia (a 24) cI 5 we, ia (a 25) cI 8 rC, ia (a 26) cI 8 rH] dX4_strike_31 7 rfl rfl rfl (Nat.le_of_ble_eq_true rfl) rfl ?_
    refine v_aload_n C dX4_strike_34 1 rfl ?_
    refine v_get C f_X4_27 dX4_strike_35 0 rfl rfl ?_
    refine v_get C f_X4_91 dX4_strike_38 7 rfl rfl ?_
    refine v_iload_n C dX4_strike_41 0 rfl ?_
    have hwl := wbN_lt (m := st) (j := jN) (by omega) (by omega) is
    refine v_icmp_ne C 49 dX4_strike_42 (by decide) (fun c6 => ?_) (fun c6 => ?_)
    · have nc6 : (wbN st jN is) ≠ st := fun q => c6 (by rw [q])
      refine v_iconst C 1 dX4_strike_49 (by decide) ?_
      exact v_reti C hA dX4_strike_50 rfl (⟨by first | (simp only [trF, trW, bI, zjN, c3, c6, nc6, nc6, not_false_eq_true, not_true_eq_false, and_self, and_true, true_and, and_false, false_and, ↓reduceIte]; done) | (simp only [trF, trW, bI, zjN, c3, c6, nc6, nc6, not_false_eq_true, not_true_eq_false, and_self, and_true, true_and, and_false, false_and, ↓reduceIte]; rfl) | (simp [trF, trW, bI, zjN, c3, c6, nc6, nc6]; done) | rfl, by first | (simp only [trF, trW, bI, zjN, c3, c6, nc6, nc6, not_false_eq_true, not_true_eq_false, and_self, and_true, true_and, and_false, false_and, ↓reduceIte]; done) | (simp only [trF, trW, bI, zjN, c3, c6, nc6, nc6, not_false_eq_true, not_true_eq_false, and_self, and_true, true_and, and_false, false_and, ↓reduceIte]; rfl) | (simp [trF, trW, bI, zjN, c3, c6, nc6, nc6]; done) | rfl⟩)
    · have nc6 : (wbN st jN is) = st := nI_eqP c6 (by omega) (by omega)
      refine v_iconst C 0 dX4_strike_45 (by decide) ?_
      refine v_goto C 50 dX4_strike_46 (by decide) ?_
      exact v_reti C hA dX4_strike_50 rfl (⟨by first | (simp only [trF, trW, bI, zjN, c3, c6, nc6, nc6, not_false_eq_true, not_true_eq_false, and_self, and_true, true_and, and_false, false_and, ↓reduceIte]; done) | (simp only [trF, trW, bI, zjN, c3, c6, nc6, nc6, not_false_eq_true, not_true_eq_false, and_self, and_true, true_and, and_false, false_and, ↓reduceIte]; rfl) | (simp [trF, trW, bI, zjN, c3, c6, nc6, nc6]; done) | rfl, by first | (simp only [trF, trW, bI, zjN, c3, c6, nc6, nc6, not_false_eq_true, not_true_eq_false, and_self, and_true, true_and, and_false, false_and, ↓reduceIte]; done) | (simp only [trF, trW, bI, zjN, c3, c6, nc6, nc6, not_false_eq_true, not_true_eq_false, and_self, and_true, true_and, and_false, false_and, ↓reduceIte]; rfl) | (simp [trF, trW, bI, zjN, c3, c6, nc6, nc6]; done) | rfl⟩)
  · refine v_eqi 0 (bI_f c3) ?_
    refine v_if_ne C 13 dX4_strike_8 (by decide) (fun h => absurd h (by decide)) (fun _ => ?_)
    refine v_iconst C (-1) dX4_strike_11 (by decide) ?_
    exact v_reti C hA dX4_strike_12 rfl (⟨by first | (simp only [trF, trW, bI, c3, not_false_eq_true, not_true_eq_false, and_self, and_true, true_and, and_false, false_and, ↓reduceIte]; done) | (simp only [trF, trW, bI, c3, not_false_eq_true, not_true_eq_false, and_self, and_true, true_and, and_false, false_and, ↓reduceIte]; rfl) | (simp [trF, trW, bI, c3]; done) | rfl, by first | (simp only [trF, trW, bI, c3, not_false_eq_true, not_true_eq_false, and_self, and_true, true_and, and_false, false_and, ↓reduceIte]; done) | (simp only [trF, trW, bI, c3, not_false_eq_true, not_true_eq_false, and_self, and_true, true_and, and_false, false_and, ↓reduceIte]; rfl) | (simp [trF, trW, bI, c3]; done) | rfl⟩)
set_option maxHeartbeats 4000000 in
set_option maxRecDepth 100000 in
theorem m_X4_minutes {l : Launch} {D : va_G} {cI cB cS : ClassId} (a : Nat → Nat) (nj nc wl s0 st nr : Nat) (tr : Int32) (fa : Int32) (bo : Nat → Int32) (ln : Int32) (lw : Int32) (ss : Int32) (sx : Int32) (un : Int32) (en : Int32) (se : Int32) (tk : Nat → Int32) (od : Nat → Int32) (ve : Nat → Int32) (vd : Nat → Int32) (si : Int32) (kd : Nat → Int32) (ag : Nat → Int32) (de : Nat → Int32) (ta : Nat → Int32) (we : Nat → Int32) (rC : Nat → Int32) (rH : Nat → Int32) (v : Int32) (hnj : nj ≤ 5) (hnc : nc ≤ 5) (hlw : wl < 64) (hs0 : s0 < 2 ^ nj) (hst2 : st < 2 ^ nj) (hp5 : 2 ^ nj ≤ 32) (hnr : nr ≤ 8) : Mi l yX4_minutes cX4_minutes 3 (some .int) 1 20 D cI cB cS [.ref (a 0), .int v] [oC a tr fa, ia (a 5) cI 5 bo, oT a ln lw ss sx un en se, ia (a 31) cI 5 tk, ia (a 32) cI 5 od, ia (a 33) cI 5 ve, ia (a 34) cI 6 vd, oK a si (nI nj) (nI nc) (nI wl) (nI s0) (nI st) (nI nr), ia (a 20) cI 5 kd, ia (a 21) cI 5 ag, ia (a 22) cI 5 de, ia (a 23) cI 5 ta, ia (a 24) cI 5 we, ia (a 25) cI 8 rC, ia (a 26) cI 8 rH] (fun r w => r = miF nc si v ∧ w = [oC a tr fa, ia (a 5) cI 5 bo, oT a ln lw ss sx un en se, ia (a 31) cI 5 tk, ia (a 32) cI 5 od, ia (a 33) cI 5 ve, ia (a 34) cI 6 vd, oK a (miW nc si v) (nI nj) (nI nc) (nI wl) (nI s0) (nI st) (nI nr), ia (a 20) cI 5 kd, ia (a 21) cI 5 ag, ia (a 22) cI 5 de, ia (a 23) cI 5 ta, ia (a 24) cI 5 we, ia (a 25) cI 8 rC, ia (a 26) cI 8 rH]) := by
  refine Mi.of (by decide) (Nat.le_of_ble_eq_true rfl) ?_
  intro zp ze zs zm zb zt zc zz zA hA C hnm
  refine v_lv0 [(0, .ref (a 0)), (1, .int v)] rfl ?_
  refine v_iload_n C dX4_minutes_0 1 rfl ?_
  refine v_iconst C 5 dX4_minutes_1 (by decide) ?_
  refine v_icmp_lt C 11 dX4_minutes_2 (by decide) (fun c1 => ?_) (fun c1 => ?_)
  · refine v_bipush C (-2) dX4_minutes_11 (by decide) ?_
    exact v_reti C hA dX4_minutes_13 rfl (⟨by first | (simp only [miF, miW, bI, c1, not_false_eq_true, not_true_eq_false, and_self, and_true, true_and, and_false, false_and, ↓reduceIte]; done) | (simp only [miF, miW, bI, c1, not_false_eq_true, not_true_eq_false, and_self, and_true, true_and, and_false, false_and, ↓reduceIte]; rfl) | (simp [miF, miW, bI, c1]; done) | rfl, by first | (simp only [miF, miW, bI, c1, not_false_eq_true, not_true_eq_false, and_self, and_true, true_and, and_false, false_and, ↓reduceIte]; done) | (simp only [miF, miW, bI, c1, not_false_eq_true, not_true_eq_false, and_self, and_true, true_and, and_false, false_and, ↓reduceIte]; rfl) | (simp [miF, miW, bI, c1]; done) | rfl⟩)
  · refine v_iload_n C dX4_minutes_5 1 rfl ?_
    refine v_bipush C 60 dX4_minutes_6 (by decide) ?_
    refine v_icmp_le C 14 dX4_minutes_8 (by decide) (fun c2 => ?_) (fun c2 => ?_)
    · refine v_aload_n C dX4_minutes_14 0 rfl ?_
      refine v_get C f_X4_27 dX4_minutes_15 0 rfl rfl ?_
      refine v_callRi C l_X4_106 (m_X0_stands a si (nI nj) (nI nc) (nI wl) (nI s0) (nI st) (nI nr)) (by decide) dX4_minutes_18 [7] rfl 7 rfl rfl rfl (rest := []) rfl (Nat.le_of_ble_eq_true rfl) (by decide) (fun r3 h4 => ?_)
      subst h4
      by_cases c5 : ¬ (nI nc) ≤ 0
      · refine v_eqi 1 (bI_t c5) ?_
        refine v_if_ne C 27 dX4_minutes_21 (by decide) (fun _ => ?_) (fun h => absurd h (by decide))
        refine v_aload_n C dX4_minutes_27 0 rfl ?_
        refine v_get C f_X4_27 dX4_minutes_28 0 rfl rfl ?_
        refine v_get C f_X4_117 dX4_minutes_31 7 rfl rfl ?_
        refine v_istore_n C [(2, .int si), (0, .ref (a 0)), (1, .int v)] dX4_minutes_34 (by decide) rfl ?_
        refine v_aload_n C dX4_minutes_35 1 rfl ?_
        refine v_get C f_X4_27 dX4_minutes_36 0 rfl rfl ?_
        refine v_iload_n C dX4_minutes_39 2 rfl ?_
        refine v_put C p_X4_117 [oC a tr fa, ia (a 5) cI 5 bo, oT a ln lw ss sx un en se, ia (a 31) cI 5 tk, ia (a 32) cI 5 od, ia (a 33) cI 5 ve, ia (a 34) cI 6 vd, oK a v (nI nj) (nI nc) (nI wl) (nI s0) (nI st) (nI nr), ia (a 20) cI 5 kd, ia (a 21) cI 5 ag, ia (a 22) cI 5 de, ia (a 23) cI 5 ta, ia (a 24) cI 5 we, ia (a 25) cI 8 rC, ia (a 26) cI 8 rH] dX4_minutes_40 7 rfl rfl rfl (Nat.le_of_ble_eq_true rfl) rfl ?_
        refine v_iload_n C dX4_minutes_43 0 rfl ?_
        exact v_reti C hA dX4_minutes_44 rfl (⟨by first | (simp only [miF, miW, bI, c1, c2, c5, not_false_eq_true, not_true_eq_false, and_self, and_true, true_and, and_false, false_and, ↓reduceIte]; done) | (simp only [miF, miW, bI, c1, c2, c5, not_false_eq_true, not_true_eq_false, and_self, and_true, true_and, and_false, false_and, ↓reduceIte]; rfl) | (simp [miF, miW, bI, c1, c2, c5]; done) | rfl, by first | (simp only [miF, miW, bI, c1, c2, c5, not_false_eq_true, not_true_eq_false, and_self, and_true, true_and, and_false, false_and, ↓reduceIte]; done) | (simp only [miF, miW, bI, c1, c2, c5, not_false_eq_true, not_true_eq_false, and_self, and_true, true_and, and_false, false_and, ↓reduceIte]; rfl) | (simp [miF, miW, bI, c1, c2, c5]; done) | rfl⟩)
      · refine v_eqi 0 (bI_f c5) ?_
        refine v_if_ne C 27 dX4_minutes_21 (by decide) (fun h => absurd h (by decide)) (fun _ => ?_)
        refine v_bipush C (-3) dX4_minutes_24 (by decide) ?_
        exact v_reti C hA dX4_minutes_26 rfl (⟨by first | (simp only [miF, miW, bI, c1, c2, Classical.not_not.mp c5, not_false_eq_true, not_true_eq_false, and_self, and_true, true_and, and_false, false_and, ↓reduceIte]; done) | (simp only [miF, miW, bI, c1, c2, Classical.not_not.mp c5, not_false_eq_true, not_true_eq_false, and_self, and_true, true_and, and_false, false_and, ↓reduceIte]; rfl) | (simp [miF, miW, bI, c1, c2, Classical.not_not.mp c5]; done) | rfl, by first | (simp only [miF, miW, bI, c1, c2, Classical.not_not.mp c5, not_false_eq_true, not_true_eq_false, and_self, and_true, true_and, and_false, false_and, ↓reduceIte]; done) | (simp only [miF, miW, bI, c1, c2, Classical.not_not.mp c5, not_false_eq_true, not_true_eq_false, and_self, and_true, true_and, and_false, false_and, ↓reduceIte]; rfl) | (simp [miF, miW, bI, c1, c2, Classical.not_not.mp c5]; done) | rfl⟩)
    · refine v_bipush C (-2) dX4_minutes_11 (by decide) ?_
      exact v_reti C hA dX4_minutes_13 rfl (⟨by first | (simp only [miF, miW, bI, c1, c2, not_false_eq_true, not_true_eq_false, and_self, and_true, true_and, and_false, false_and, ↓reduceIte]; done) | (simp only [miF, miW, bI, c1, c2, not_false_eq_true, not_true_eq_false, and_self, and_true, true_and, and_false, false_and, ↓reduceIte]; rfl) | (simp [miF, miW, bI, c1, c2]; done) | rfl, by first | (simp only [miF, miW, bI, c1, c2, not_false_eq_true, not_true_eq_false, and_self, and_true, true_and, and_false, false_and, ↓reduceIte]; done) | (simp only [miF, miW, bI, c1, c2, not_false_eq_true, not_true_eq_false, and_self, and_true, true_and, and_false, false_and, ↓reduceIte]; rfl) | (simp [miF, miW, bI, c1, c2]; done) | rfl⟩)
set_option maxHeartbeats 4000000 in
set_option maxRecDepth 100000 in
theorem m_X4_trace {l : Launch} {D : va_G} {cI cB cS : ClassId} (a : Nat → Nat) (nj nc wl s0 st nr : Nat) (tr : Int32) (fa : Int32) (bo : Nat → Int32) (ln : Int32) (lw : Int32) (ss : Int32) (sx : Int32) (un : Int32) (en : Int32) (se : Int32) (tk : Nat → Int32) (od : Nat → Int32) (ve : Nat → Int32) (vd : Nat → Int32) (si : Int32) (kd : Nat → Int32) (ag : Nat → Int32) (de : Nat → Int32) (ta : Nat → Int32) (we : Nat → Int32) (rC : Nat → Int32) (rH : Nat → Int32) (hnj : nj ≤ 5) (hnc : nc ≤ 5) (hlw : wl < 64) (hs0 : s0 < 2 ^ nj) (hst2 : st < 2 ^ nj) (hp5 : 2 ^ nj ≤ 32) (hnr : nr ≤ 8) : Mi l yX4_trace cX4_trace 1 (some .int) 0 0 D cI cB cS [.ref (a 0)] [oC a tr fa, ia (a 5) cI 5 bo, oT a ln lw ss sx un en se, ia (a 31) cI 5 tk, ia (a 32) cI 5 od, ia (a 33) cI 5 ve, ia (a 34) cI 6 vd, oK a si (nI nj) (nI nc) (nI wl) (nI s0) (nI st) (nI nr), ia (a 20) cI 5 kd, ia (a 21) cI 5 ag, ia (a 22) cI 5 de, ia (a 23) cI 5 ta, ia (a 24) cI 5 we, ia (a 25) cI 8 rC, ia (a 26) cI 8 rH] (fun r w => r = tr ∧ w = [oC a tr fa, ia (a 5) cI 5 bo, oT a ln lw ss sx un en se, ia (a 31) cI 5 tk, ia (a 32) cI 5 od, ia (a 33) cI 5 ve, ia (a 34) cI 6 vd, oK a si (nI nj) (nI nc) (nI wl) (nI s0) (nI st) (nI nr), ia (a 20) cI 5 kd, ia (a 21) cI 5 ag, ia (a 22) cI 5 de, ia (a 23) cI 5 ta, ia (a 24) cI 5 we, ia (a 25) cI 8 rC, ia (a 26) cI 8 rH]) := by
  refine Mi.of (by decide) (Nat.le_of_ble_eq_true rfl) ?_
  intro zp ze zs zm zb zt zc zz zA hA C hnm
  refine v_lv0 [(0, .ref (a 0))] rfl ?_
  refine v_aload_n C dX4_trace_0 0 rfl ?_
  refine v_get C f_X4_227 dX4_trace_1 0 rfl rfl ?_
  exact v_reti C hA dX4_trace_4 rfl (⟨by first | (simp only [id, bI, not_false_eq_true, not_true_eq_false, and_self, and_true, true_and, and_false, false_and, ↓reduceIte]; done) | (simp only [id, bI, not_false_eq_true, not_true_eq_false, and_self, and_true, true_and, and_false, false_and, ↓reduceIte]; rfl) | (simp [id, bI, ]; done) | rfl, by first | (simp only [id, bI, not_false_eq_true, not_true_eq_false, and_self, and_true, true_and, and_false, false_and, ↓reduceIte]; done) | (simp only [id, bI, not_false_eq_true, not_true_eq_false, and_self, and_true, true_and, and_false, false_and, ↓reduceIte]; rfl) | (simp [id, bI, ]; done) | rfl⟩)
set_option maxHeartbeats 4000000 in
set_option maxRecDepth 100000 in
theorem m_X4_fault {l : Launch} {D : va_G} {cI cB cS : ClassId} (a : Nat → Nat) (nj nc wl s0 st nr : Nat) (tr : Int32) (fa : Int32) (bo : Nat → Int32) (ln : Int32) (lw : Int32) (ss : Int32) (sx : Int32) (un : Int32) (en : Int32) (se : Int32) (tk : Nat → Int32) (od : Nat → Int32) (ve : Nat → Int32) (vd : Nat → Int32) (si : Int32) (kd : Nat → Int32) (ag : Nat → Int32) (de : Nat → Int32) (ta : Nat → Int32) (we : Nat → Int32) (rC : Nat → Int32) (rH : Nat → Int32) (hnj : nj ≤ 5) (hnc : nc ≤ 5) (hlw : wl < 64) (hs0 : s0 < 2 ^ nj) (hst2 : st < 2 ^ nj) (hp5 : 2 ^ nj ≤ 32) (hnr : nr ≤ 8) : Mi l yX4_fault cX4_fault 1 (some .int) 0 0 D cI cB cS [.ref (a 0)] [oC a tr fa, ia (a 5) cI 5 bo, oT a ln lw ss sx un en se, ia (a 31) cI 5 tk, ia (a 32) cI 5 od, ia (a 33) cI 5 ve, ia (a 34) cI 6 vd, oK a si (nI nj) (nI nc) (nI wl) (nI s0) (nI st) (nI nr), ia (a 20) cI 5 kd, ia (a 21) cI 5 ag, ia (a 22) cI 5 de, ia (a 23) cI 5 ta, ia (a 24) cI 5 we, ia (a 25) cI 8 rC, ia (a 26) cI 8 rH] (fun r w => r = fa ∧ w = [oC a tr fa, ia (a 5) cI 5 bo, oT a ln lw ss sx un en se, ia (a 31) cI 5 tk, ia (a 32) cI 5 od, ia (a 33) cI 5 ve, ia (a 34) cI 6 vd, oK a si (nI nj) (nI nc) (nI wl) (nI s0) (nI st) (nI nr), ia (a 20) cI 5 kd, ia (a 21) cI 5 ag, ia (a 22) cI 5 de, ia (a 23) cI 5 ta, ia (a 24) cI 5 we, ia (a 25) cI 8 rC, ia (a 26) cI 8 rH]) := by
  refine Mi.of (by decide) (Nat.le_of_ble_eq_true rfl) ?_
  intro zp ze zs zm zb zt zc zz zA hA C hnm
  refine v_lv0 [(0, .ref (a 0))] rfl ?_
  refine v_aload_n C dX4_fault_0 0 rfl ?_
  refine v_get C f_X4_45 dX4_fault_1 0 rfl rfl ?_
  exact v_reti C hA dX4_fault_4 rfl (⟨by first | (simp only [id, bI, not_false_eq_true, not_true_eq_false, and_self, and_true, true_and, and_false, false_and, ↓reduceIte]; done) | (simp only [id, bI, not_false_eq_true, not_true_eq_false, and_self, and_true, true_and, and_false, false_and, ↓reduceIte]; rfl) | (simp [id, bI, ]; done) | rfl, by first | (simp only [id, bI, not_false_eq_true, not_true_eq_false, and_self, and_true, true_and, and_false, false_and, ↓reduceIte]; done) | (simp only [id, bI, not_false_eq_true, not_true_eq_false, and_self, and_true, true_and, and_false, false_and, ↓reduceIte]; rfl) | (simp [id, bI, ]; done) | rfl⟩)
set_option maxHeartbeats 4000000 in
set_option maxRecDepth 100000 in
theorem m_X4_many {l : Launch} {D : va_G} {cI cB cS : ClassId} (a : Nat → Nat) (nj nc wl s0 st nr : Nat) (tr : Int32) (fa : Int32) (bo : Nat → Int32) (ln : Int32) (lw : Int32) (ss : Int32) (sx : Int32) (un : Int32) (en : Int32) (se : Int32) (tk : Nat → Int32) (od : Nat → Int32) (ve : Nat → Int32) (vd : Nat → Int32) (si : Int32) (kd : Nat → Int32) (ag : Nat → Int32) (de : Nat → Int32) (ta : Nat → Int32) (we : Nat → Int32) (rC : Nat → Int32) (rH : Nat → Int32) (x : Int32) (hnj : nj ≤ 5) (hnc : nc ≤ 5) (hlw : wl < 64) (hs0 : s0 < 2 ^ nj) (hst2 : st < 2 ^ nj) (hp5 : 2 ^ nj ≤ 32) (hnr : nr ≤ 8) : Mi l yX4_many cX4_many 2 (some .int) 0 0 D cI cB cS [.ref (a 0), .int x] [oC a tr fa, ia (a 5) cI 5 bo, oT a ln lw ss sx un en se, ia (a 31) cI 5 tk, ia (a 32) cI 5 od, ia (a 33) cI 5 ve, ia (a 34) cI 6 vd, oK a si (nI nj) (nI nc) (nI wl) (nI s0) (nI st) (nI nr), ia (a 20) cI 5 kd, ia (a 21) cI 5 ag, ia (a 22) cI 5 de, ia (a 23) cI 5 ta, ia (a 24) cI 5 we, ia (a 25) cI 8 rC, ia (a 26) cI 8 rH] (fun r w => r = maF nj nc si wl nr x ∧ w = [oC a tr fa, ia (a 5) cI 5 bo, oT a ln lw ss sx un en se, ia (a 31) cI 5 tk, ia (a 32) cI 5 od, ia (a 33) cI 5 ve, ia (a 34) cI 6 vd, oK a si (nI nj) (nI nc) (nI wl) (nI s0) (nI st) (nI nr), ia (a 20) cI 5 kd, ia (a 21) cI 5 ag, ia (a 22) cI 5 de, ia (a 23) cI 5 ta, ia (a 24) cI 5 we, ia (a 25) cI 8 rC, ia (a 26) cI 8 rH]) := by
  refine Mi.of (by decide) (Nat.le_of_ble_eq_true rfl) ?_
  intro zp ze zs zm zb zt zc zz zA hA C hnm
  refine v_lv0 [(0, .ref (a 0)), (1, .int x)] rfl ?_
  refine v_iload_n C dX4_many_0 1 rfl ?_
  by_cases e1 : x = 0
  · refine v_tableIn C 36 dX4_many_1 (by rw [e1]; decide) (by rw [e1]; decide) (by rw [e1] <;> rfl) (by decide) ?_
    refine v_aload_n C dX4_many_36 0 rfl ?_
    refine v_get C f_X4_27 dX4_many_37 0 rfl rfl ?_
    refine v_get C f_X4_72 dX4_many_40 7 rfl rfl ?_
    exact v_reti C hA dX4_many_43 rfl (⟨by first | (simp only [maF, bI, e1, not_false_eq_true, not_true_eq_false, and_self, and_true, true_and, and_false, false_and, ↓reduceIte]; done) | (simp only [maF, bI, e1, not_false_eq_true, not_true_eq_false, and_self, and_true, true_and, and_false, false_and, ↓reduceIte]; rfl) | (simp [maF, bI, e1]; done) | rfl, by first | (simp only [maF, bI, e1, not_false_eq_true, not_true_eq_false, and_self, and_true, true_and, and_false, false_and, ↓reduceIte]; done) | (simp only [maF, bI, e1, not_false_eq_true, not_true_eq_false, and_self, and_true, true_and, and_false, false_and, ↓reduceIte]; rfl) | (simp [maF, bI, e1]; done) | rfl⟩)
  by_cases e2 : x = 1
  · refine v_tableIn C 44 dX4_many_1 (by rw [e2]; decide) (by rw [e2]; decide) (by rw [e2] <;> rfl) (by decide) ?_
    refine v_aload_n C dX4_many_44 0 rfl ?_
    refine v_get C f_X4_27 dX4_many_45 0 rfl rfl ?_
    refine v_get C f_X4_151 dX4_many_48 7 rfl rfl ?_
    exact v_reti C hA dX4_many_51 rfl (⟨by first | (simp only [maF, bI, e2, e1, not_false_eq_true, not_true_eq_false, and_self, and_true, true_and, and_false, false_and, ↓reduceIte]; done) | (simp only [maF, bI, e2, e1, not_false_eq_true, not_true_eq_false, and_self, and_true, true_and, and_false, false_and, ↓reduceIte]; rfl) | (simp [maF, bI, e2, e1]; done) | rfl, by first | (simp only [maF, bI, e2, e1, not_false_eq_true, not_true_eq_false, and_self, and_true, true_and, and_false, false_and, ↓reduceIte]; done) | (simp only [maF, bI, e2, e1, not_false_eq_true, not_true_eq_false, and_self, and_true, true_and, and_false, false_and, ↓reduceIte]; rfl) | (simp [maF, bI, e2, e1]; done) | rfl⟩)
  by_cases e3 : x = 2
  · refine v_tableIn C 52 dX4_many_1 (by rw [e3]; decide) (by rw [e3]; decide) (by rw [e3] <;> rfl) (by decide) ?_
    refine v_aload_n C dX4_many_52 0 rfl ?_
    refine v_get C f_X4_27 dX4_many_53 0 rfl rfl ?_
    refine v_get C f_X4_117 dX4_many_56 7 rfl rfl ?_
    exact v_reti C hA dX4_many_59 rfl (⟨by first | (simp only [maF, bI, e3, e1, e2, not_false_eq_true, not_true_eq_false, and_self, and_true, true_and, and_false, false_and, ↓reduceIte]; done) | (simp only [maF, bI, e3, e1, e2, not_false_eq_true, not_true_eq_false, and_self, and_true, true_and, and_false, false_and, ↓reduceIte]; rfl) | (simp [maF, bI, e3, e1, e2]; done) | rfl, by first | (simp only [maF, bI, e3, e1, e2, not_false_eq_true, not_true_eq_false, and_self, and_true, true_and, and_false, false_and, ↓reduceIte]; done) | (simp only [maF, bI, e3, e1, e2, not_false_eq_true, not_true_eq_false, and_self, and_true, true_and, and_false, false_and, ↓reduceIte]; rfl) | (simp [maF, bI, e3, e1, e2]; done) | rfl⟩)
  by_cases e4 : x = 3
  · refine v_tableIn C 60 dX4_many_1 (by rw [e4]; decide) (by rw [e4]; decide) (by rw [e4] <;> rfl) (by decide) ?_
    refine v_aload_n C dX4_many_60 0 rfl ?_
    refine v_get C f_X4_27 dX4_many_61 0 rfl rfl ?_
    refine v_get C f_X4_110 dX4_many_64 7 rfl rfl ?_
    exact v_reti C hA dX4_many_67 rfl (⟨by first | (simp only [maF, bI, e4, e1, e2, e3, not_false_eq_true, not_true_eq_false, and_self, and_true, true_and, and_false, false_and, ↓reduceIte]; done) | (simp only [maF, bI, e4, e1, e2, e3, not_false_eq_true, not_true_eq_false, and_self, and_true, true_and, and_false, false_and, ↓reduceIte]; rfl) | (simp [maF, bI, e4, e1, e2, e3]; done) | rfl, by first | (simp only [maF, bI, e4, e1, e2, e3, not_false_eq_true, not_true_eq_false, and_self, and_true, true_and, and_false, false_and, ↓reduceIte]; done) | (simp only [maF, bI, e4, e1, e2, e3, not_false_eq_true, not_true_eq_false, and_self, and_true, true_and, and_false, false_and, ↓reduceIte]; rfl) | (simp [maF, bI, e4, e1, e2, e3]; done) | rfl⟩)
  by_cases e5 : x = 4
  · refine v_tableIn C 68 dX4_many_1 (by rw [e5]; decide) (by rw [e5]; decide) (by rw [e5] <;> rfl) (by decide) ?_
    refine v_aload_n C dX4_many_68 0 rfl ?_
    refine v_get C f_X4_27 dX4_many_69 0 rfl rfl ?_
    refine v_get C f_X4_160 dX4_many_72 7 rfl rfl ?_
    exact v_reti C hA dX4_many_75 rfl (⟨by first | (simp only [maF, bI, e5, e1, e2, e3, e4, not_false_eq_true, not_true_eq_false, and_self, and_true, true_and, and_false, false_and, ↓reduceIte]; done) | (simp only [maF, bI, e5, e1, e2, e3, e4, not_false_eq_true, not_true_eq_false, and_self, and_true, true_and, and_false, false_and, ↓reduceIte]; rfl) | (simp [maF, bI, e5, e1, e2, e3, e4]; done) | rfl, by first | (simp only [maF, bI, e5, e1, e2, e3, e4, not_false_eq_true, not_true_eq_false, and_self, and_true, true_and, and_false, false_and, ↓reduceIte]; done) | (simp only [maF, bI, e5, e1, e2, e3, e4, not_false_eq_true, not_true_eq_false, and_self, and_true, true_and, and_false, false_and, ↓reduceIte]; rfl) | (simp [maF, bI, e5, e1, e2, e3, e4]; done) | rfl⟩)
  refine v_tableOut C 76 dX4_many_1 (tab_out5 e1 e2 e3 e4 e5) (by decide) ?_
  refine v_bipush C (-2) dX4_many_76 (by decide) ?_
  exact v_reti C hA dX4_many_78 rfl (⟨by first | (simp only [maF, bI, e1, e2, e3, e4, e5, not_false_eq_true, not_true_eq_false, and_self, and_true, true_and, and_false, false_and, ↓reduceIte]; done) | (simp only [maF, bI, e1, e2, e3, e4, e5, not_false_eq_true, not_true_eq_false, and_self, and_true, true_and, and_false, false_and, ↓reduceIte]; rfl) | (simp [maF, bI, e1, e2, e3, e4, e5]; done) | rfl, by first | (simp only [maF, bI, e1, e2, e3, e4, e5, not_false_eq_true, not_true_eq_false, and_self, and_true, true_and, and_false, false_and, ↓reduceIte]; done) | (simp only [maF, bI, e1, e2, e3, e4, e5, not_false_eq_true, not_true_eq_false, and_self, and_true, true_and, and_false, false_and, ↓reduceIte]; rfl) | (simp [maF, bI, e1, e2, e3, e4, e5]; done) | rfl⟩)
