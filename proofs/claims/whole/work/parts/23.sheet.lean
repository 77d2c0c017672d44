/-! sheets -/
abbrev vS (q : Int32) : Prop := vSb q = true
abbrev vL (x : Int32) : Prop := vLb x = true
abbrev shOk (q x n : Int32) : Prop := vS q ∧ vL x ∧ n ≤ 60 ∧ 0 ≤ n
def shF (q x n : Int32) : Int32 := if vS q then (if vL x then (if n ≤ 60 then (if 0 ≤ n then 1 else -14) else -2) else -2) else -1
def shT (q x n : Int32) : Int32 := if vS q ∧ vL x ∧ n ≤ 60 ∧ ¬ 0 ≤ n then 4 else 0
def loF (q hs : Int32) : Int32 := if vS q then (if hs = 0 then 0 else 1) else -1
abbrev puOk (q hs : Int32) (g : Nat) (i : Int32) : Prop := vS q ∧ ¬ hs = 0 ∧ ¬ i < 0 ∧ ¬ nI g ≤ i
def puF (q hs : Int32) (g : Nat) (i : Int32) : Int32 := if vS q then (if hs = 0 then -11 else if ¬ i < 0 ∧ ¬ nI g ≤ i then 1 else -13) else -1
def puT (q hs : Int32) (g : Nat) (i : Int32) : Int32 := if vS q then (if hs = 0 then 1 else if ¬ i < 0 ∧ ¬ nI g ≤ i then 0 else 3) else 0
def ceF (q hs sl : Int32) (g : Nat) (sc : Nat → Int32) (i x : Int32) : Int64 := if vS q ∧ vL x then (if folF hs sl x = 0 then (if ¬ i < 0 ∧ ¬ nI g ≤ i then (sc (zN i)).toInt64 else -9223372036854775808) else -9223372036854775808) else -9223372036854775808
def ceT (q hs sl : Int32) (g : Nat) (i x : Int32) : Int32 := if vS q ∧ vL x then (if folF hs sl x = 0 then (if ¬ i < 0 ∧ ¬ nI g ≤ i then 0 else 3) else folF hs sl x) else 0
abbrev hcB (g : Nat) (i n : Int32) : Prop := hcb (nI g) i n = true
abbrev cyOk (q q2 hs hs2 sl sl2 : Int32) (g g2 : Nat) (i j n : Int32) : Prop := vS q ∧ vS q2 ∧ ¬ hs = 0 ∧ ¬ hs2 = 0 ∧ sl = sl2 ∧ hcB g i n ∧ hcB g2 j n
def cyF (q q2 hs hs2 sl sl2 : Int32) (g g2 : Nat) (i j n : Int32) : Int32 := if vS q ∧ vS q2 then (if ¬ hs = 0 ∧ ¬ hs2 = 0 then (if sl = sl2 then (if hcB g i n ∧ hcB g2 j n then n else -13) else -12) else -11) else -1
def cyT (q q2 hs hs2 sl sl2 : Int32) (g g2 : Nat) (i j n : Int32) : Int32 := if vS q ∧ vS q2 then (if ¬ hs = 0 ∧ ¬ hs2 = 0 then (if sl = sl2 then (if hcB g i n ∧ hcB g2 j n then 0 else 3) else 2) else 1) else 0
theorem hc_nat {g : Nat} {i n : Int32} (hg : g ≤ 60) (h : hcB g i n) : ∃ iN nN, i = nI iN ∧ n = nI nN ∧ iN + nN ≤ g ∧ zN i = iN ∧ zN n = nN := by
  obtain ⟨a1, a2, a3, a4⟩ := (hcb_iff _ _ _).mp h
  obtain ⟨iN, hi, rfl⟩ := nI_of a1
  obtain ⟨nN, hn, rfl⟩ := nI_of a2
  have b3 := nI_geP a3 hi
  rw [pk_sub b3] at a4
  have b4 := nI_geP a4 hn
  exact ⟨iN, nN, rfl, rfl, by omega, nI_clamp hi, nI_clamp hn⟩
set_option maxHeartbeats 4000000 in
set_option maxRecDepth 100000 in
theorem m_X4_sheet {l : Launch} {D : va_G} {cI cB cS : ClassId} (a : Nat → Nat) (k g : Nat) (tr : Int32) (fa : Int32) (hs : Int32) (sl : Int32) (sc : Nat → Int32) (q : Int32) (x : Int32) (n : Int32) (hk : k < 4) (hg : g ≤ 60) (hq : vS q → q = nI k) : Mi l yX4_sheet cX4_sheet 4 (some .int) 2 45 D cI cB cS [.ref (a 0), .int q, .int x, .int n] [oC a tr fa, aS a cS, oS a k hs sl (nI g), ia (a (14 + k)) cI 60 sc] (fun r w => r = shF q x n ∧ w = [oC a tr (shT q x n), aS a cS, oS a k (if shOk q x n then 1 else hs) (if shOk q x n then x else sl) (nI (if shOk q x n then zN n else g)), ia (a (14 + k)) cI 60 (if shOk q x n then (fun _ => 0) else sc)]) := by
  refine Mi.of (by decide) (Nat.le_of_ble_eq_true rfl) ?_
  intro zp ze zs zm zb zt zc zz zA hA C hnm
  refine v_lv0 [(0, .ref (a 0)), (1, .int q), (2, .int x), (3, .int n)] rfl ?_
  refine v_aload_n C dX4_sheet_0 0 rfl ?_
  refine v_iconst C 0 dX4_sheet_1 (by decide) ?_
  refine v_put C p_X4_45 [oC a tr 0, aS a cS, oS a k hs sl (nI g), ia (a (14 + k)) cI 60 sc] dX4_sheet_2 0 rfl rfl rfl (Nat.le_of_ble_eq_true rfl) rfl ?_
  refine v_iload_n C dX4_sheet_5 1 rfl ?_
  refine v_callSi C l_X4_49 (m_X4_isSheet q) (by decide) dX4_sheet_6 [] rfl rfl (rest := []) rfl (Nat.le_of_ble_eq_true rfl) (by decide) (fun r1 h2 => ?_)
  subst h2
  by_cases c3 : vSb q = true
  · refine v_eqi 1 (bI_t c3) ?_
    refine v_if_ne C 14 dX4_sheet_9 (by decide) (fun _ => ?_) (fun h => absurd h (by decide))
    have hqk := hq c3
    refine v_iload_n C dX4_sheet_14 2 rfl ?_
    refine v_callSi C l_X4_53 (m_X4_isLane x) (by decide) dX4_sheet_15 [] rfl rfl (rest := []) rfl (Nat.le_of_ble_eq_true rfl) (by decide) (fun r4 h5 => ?_)
    subst h5
    by_cases c6 : vLb x = true
    · refine v_eqi 1 (bI_t c6) ?_
      refine v_if_eq C 27 dX4_sheet_18 (by decide) (fun h => absurd h (by decide)) (fun _ => ?_)
      refine v_iload_n C dX4_sheet_21 3 rfl ?_
      refine v_bipush C 60 dX4_sheet_22 (by decide) ?_
      refine v_icmp_le C 30 dX4_sheet_24 (by decide) (fun c7 => ?_) (fun c7 => ?_)
      · refine v_iload_n C dX4_sheet_30 3 rfl ?_
        refine v_if_ge C 40 dX4_sheet_31 (by decide) (fun c8 => ?_) (fun c8 => ?_)
        · obtain ⟨nN, hnN, rfl⟩ := ix_le (n := 60) (by omega) (Int32.not_lt.mpr c8) c7
          have znN : (nI nN).toNatClampNeg = nN := nI_clamp (by omega)
          refine v_aload_n C dX4_sheet_40 0 rfl ?_
          refine v_get C f_X4_13 dX4_sheet_41 0 rfl rfl ?_
          refine v_iload_n C dX4_sheet_44 1 rfl ?_
          refine v_aaldN C dX4_sheet_45 1 rfl k hqk hk (by decide) (a (10 + k)) rfl ?_
          refine v_iload_n C dX4_sheet_46 2 rfl ?_
          refine v_iload_n C dX4_sheet_47 3 rfl ?_
          refine v_callMv C l_X4_182 (m_X1_renew a k hs sl (nI g) sc x (nI nN)) (by decide) dX4_sheet_48 [2, 3] [0, 1] (wr := [oC a tr 0, aS a cS]) (by decide) rfl rfl (by decide) (by decide) 2 rfl rfl rfl (rest := []) rfl (Nat.le_of_ble_eq_true rfl) (by decide) (fun w9 h10 => ?_)
          subst h10
          refine v_ws0 [oC a tr 0, aS a cS, oS a k 1 x (nI nN), ia (a (14 + k)) cI 60 (fun _ => 0)] rfl ?_
          refine v_iconst C 1 dX4_sheet_51 (by decide) ?_
          exact v_reti C hA dX4_sheet_52 rfl (⟨by first | (simp only [shF, shT, shOk, vS, vL, bI, znN, c3, c6, c7, c8, not_false_eq_true, not_true_eq_false, and_self, and_true, true_and, and_false, false_and, ↓reduceIte]; done) | (simp only [shF, shT, shOk, vS, vL, bI, znN, c3, c6, c7, c8, not_false_eq_true, not_true_eq_false, and_self, and_true, true_and, and_false, false_and, ↓reduceIte]; rfl) | (simp [shF, shT, shOk, vS, vL, bI, znN, c3, c6, c7, c8]; done) | rfl, by first | (simp only [shF, shT, shOk, vS, vL, bI, znN, c3, c6, c7, c8, not_false_eq_true, not_true_eq_false, and_self, and_true, true_and, and_false, false_and, ↓reduceIte]; done) | (simp only [shF, shT, shOk, vS, vL, bI, znN, c3, c6, c7, c8, not_false_eq_true, not_true_eq_false, and_self, and_true, true_and, and_false, false_and, ↓reduceIte]; rfl) | (simp [shF, shT, shOk, vS, vL, bI, znN, c3, c6, c7, c8]; done) | rfl⟩)
        · refine v_aload_n C dX4_sheet_34 0 rfl ?_
          refine v_iconst C 4 dX4_sheet_35 (by decide) ?_
          refine v_callMi C l_X4_60 (m_X4_faulty a tr 0 4) (by decide) dX4_sheet_36 [0] [1, 2, 3] (wr := [aS a cS, oS a k hs sl (nI g), ia (a (14 + k)) cI 60 sc]) (by decide) rfl rfl (by decide) (by decide) 0 rfl rfl rfl (rest := []) rfl (Nat.le_of_ble_eq_true rfl) (by decide) (fun r14 w12 h13 => ?_)
          obtain ⟨rfl, rfl⟩ := h13
          refine v_ws0 [aS a cS, oS a k hs sl (nI g), ia (a (14 + k)) cI 60 sc, oC a tr (4 : Int32)] rfl ?_
          refine v_perm (ws' := [oC a tr (4 : Int32), aS a cS, oS a k hs sl (nI g), ia (a (14 + k)) cI 60 sc]) [3, 0, 1, 2] (by decide) rfl ?_
          exact v_reti C hA dX4_sheet_39 rfl (⟨by first | (simp only [shF, shT, shOk, vS, vL, bI, c3, c6, c7, c8, not_false_eq_true, not_true_eq_false, and_self, and_true, true_and, and_false, false_and, ↓reduceIte]; done) | (simp only [shF, shT, shOk, vS, vL, bI, c3, c6, c7, c8, not_false_eq_true, not_true_eq_false, and_self, and_true, true_and, and_false, false_and, ↓reduceIte]; rfl) | (simp [shF, shT, shOk, vS, vL, bI, c3, c6, c7, c8]; done) | rfl, by first | (simp only [shF, shT, shOk, vS, vL, bI, c3, c6, c7, c8, not_false_eq_true, not_true_eq_false, and_self, and_true, true_and, and_false, false_and, ↓reduceIte]; done) | (simp only [shF, shT, shOk, vS, vL, bI, c3, c6, c7, c8, not_false_eq_true, not_true_eq_false, and_self, and_true, true_and, and_false, false_and, ↓reduceIte]; rfl) | (simp [shF, shT, shOk, vS, vL, bI, c3, c6, c7, c8]; done) | rfl⟩)
      · refine v_bipush C (-2) dX4_sheet_27 (by decide) ?_
        exact v_reti C hA dX4_sheet_29 rfl (⟨by first | (simp only [shF, shT, shOk, vS, vL, bI, c3, c6, c7, not_false_eq_true, not_true_eq_false, and_self, and_true, true_and, and_false, false_and, ↓reduceIte]; done) | (simp only [shF, shT, shOk, vS, vL, bI, c3, c6, c7, not_false_eq_true, not_true_eq_false, and_self, and_true, true_and, and_false, false_and, ↓reduceIte]; rfl) | (simp [shF, shT, shOk, vS, vL, bI, c3, c6, c7]; done) | rfl, by first | (simp only [shF, shT, shOk, vS, vL, bI, c3, c6, c7, not_false_eq_true, not_true_eq_false, and_self, and_true, true_and, and_false, false_and, ↓reduceIte]; done) | (simp only [shF, shT, shOk, vS, vL, bI, c3, c6, c7, not_false_eq_true, not_true_eq_false, and_self, and_true, true_and, and_false, false_and, ↓reduceIte]; rfl) | (simp [shF, shT, shOk, vS, vL, bI, c3, c6, c7]; done) | rfl⟩)
    · refine v_eqi 0 (bI_f c6) ?_
      refine v_if_eq C 27 dX4_sheet_18 (by decide) (fun _ => ?_) (fun h => absurd h (by decide))
      refine v_bipush C (-2) dX4_sheet_27 (by decide) ?_
      exact v_reti C hA dX4_sheet_29 rfl (⟨by first | (simp only [shF, shT, shOk, vS, vL, bI, c3, c6, not_false_eq_true, not_true_eq_false, and_self, and_true, true_and, and_false, false_and, ↓reduceIte]; done) | (simp only [shF, shT, shOk, vS, vL, bI, c3, c6, not_false_eq_true, not_true_eq_false, and_self, and_true, true_and, and_false, false_and, ↓reduceIte]; rfl) | (simp [shF, shT, shOk, vS, vL, bI, c3, c6]; done) | rfl, by first | (simp only [shF, shT, shOk, vS, vL, bI, c3, c6, not_false_eq_true, not_true_eq_false, and_self, and_true, true_and, and_false, false_and, ↓reduceIte]; done) | (simp only [shF, shT, shOk, vS, vL, bI, c3, c6, not_false_eq_true, not_true_eq_false, and_self, and_true, true_and, and_false, false_and, ↓reduceIte]; rfl) | (simp [shF, shT, shOk, vS, vL, bI, c3, c6]; done) | rfl⟩)
  · refine v_eqi 0 (bI_f c3) ?_
    refine v_if_ne C 14 dX4_sheet_9 (by decide) (fun h => absurd h (by decide)) (fun _ => ?_)
    refine v_iconst C (-1) dX4_sheet_12 (by decide) ?_
    exact v_reti C hA dX4_sheet_13 rfl (⟨by first | (simp only [shF, shT, shOk, vS, vL, bI, c3, not_false_eq_true, not_true_eq_false, and_self, and_true, true_and, and_false, false_and, ↓reduceIte]; done) | (simp only [shF, shT, shOk, vS, vL, bI, c3, not_false_eq_true, not_true_eq_false, and_self, and_true, true_and, and_false, false_and, ↓reduceIte]; rfl) | (simp [shF, shT, shOk, vS, vL, bI, c3]; done) | rfl, by first | (simp only [shF, shT, shOk, vS, vL, bI, c3, not_false_eq_true, not_true_eq_false, and_self, and_true, true_and, and_false, false_and, ↓reduceIte]; done) | (simp only [shF, shT, shOk, vS, vL, bI, c3, not_false_eq_true, not_true_eq_false, and_self, and_true, true_and, and_false, false_and, ↓reduceIte]; rfl) | (simp [shF, shT, shOk, vS, vL, bI, c3]; done) | rfl⟩)
set_option maxHeartbeats 4000000 in
set_option maxRecDepth 100000 in
theorem m_X4_lose {l : Launch} {D : va_G} {cI cB cS : ClassId} (a : Nat → Nat) (k g : Nat) (tr : Int32) (fa : Int32) (hs : Int32) (sl : Int32) (sc : Nat → Int32) (q : Int32) (hk : k < 4) (hg : g ≤ 60) (hq : vS q → q = nI k) : Mi l yX4_lose cX4_lose 3 (some .int) 1 20 D cI cB cS [.ref (a 0), .int q] [oC a tr fa, aS a cS, oS a k hs sl (nI g), ia (a (14 + k)) cI 60 sc] (fun r w => r = loF q hs ∧ w = [oC a tr fa, aS a cS, oS a k (if vS q then 0 else hs) sl (nI g), ia (a (14 + k)) cI 60 sc]) := by
  refine Mi.of (by decide) (Nat.le_of_ble_eq_true rfl) ?_
  intro zp ze zs zm zb zt zc zz zA hA C hnm
  refine v_lv0 [(0, .ref (a 0)), (1, .int q)] rfl ?_
  refine v_iload_n C dX4_lose_0 1 rfl ?_
  refine v_callSi C l_X4_49 (m_X4_isSheet q) (by decide) dX4_lose_1 [] rfl rfl (rest := []) rfl (Nat.le_of_ble_eq_true rfl) (by decide) (fun r1 h2 => ?_)
  subst h2
  by_cases c3 : vSb q = true
  · refine v_eqi 1 (bI_t c3) ?_
    refine v_if_ne C 9 dX4_lose_4 (by decide) (fun _ => ?_) (fun h => absurd h (by decide))
    have hqk := hq c3
    refine v_aload_n C dX4_lose_9 0 rfl ?_
    refine v_get C f_X4_13 dX4_lose_10 0 rfl rfl ?_
    refine v_iload_n C dX4_lose_13 1 rfl ?_
    refine v_aaldN C dX4_lose_14 1 rfl k hqk hk (by decide) (a (10 + k)) rfl ?_
    refine v_get C f_X4_186 dX4_lose_15 2 rfl rfl ?_
    refine v_istore_n C [(2, .int hs), (0, .ref (a 0)), (1, .int q)] dX4_lose_18 (by decide) rfl ?_
    refine v_aload_n C dX4_lose_19 1 rfl ?_
    refine v_get C f_X4_13 dX4_lose_20 0 rfl rfl ?_
    refine v_iload_n C dX4_lose_23 2 rfl ?_
    refine v_aaldN C dX4_lose_24 1 rfl k hqk hk (by decide) (a (10 + k)) rfl ?_
    refine v_iconst C 0 dX4_lose_25 (by decide) ?_
    refine v_put C p_X4_186 [oC a tr fa, aS a cS, oS a k 0 sl (nI g), ia (a (14 + k)) cI 60 sc] dX4_lose_26 2 rfl rfl rfl (Nat.le_of_ble_eq_true rfl) rfl ?_
    refine v_iload_n C dX4_lose_29 0 rfl ?_
    refine v_if_eq C 37 dX4_lose_30 (by decide) (fun c4 => ?_) (fun c4 => ?_)
    · refine v_iconst C 0 dX4_lose_37 (by decide) ?_
      exact v_reti C hA dX4_lose_38 rfl (⟨by first | (simp only [loF, vS, bI, c3, c4, not_false_eq_true, not_true_eq_false, and_self, and_true, true_and, and_false, false_and, ↓reduceIte]; done) | (simp only [loF, vS, bI, c3, c4, not_false_eq_true, not_true_eq_false, and_self, and_true, true_and, and_false, false_and, ↓reduceIte]; rfl) | (simp [loF, vS, bI, c3, c4]; done) | rfl, by first | (simp only [loF, vS, bI, c3, c4, not_false_eq_true, not_true_eq_false, and_self, and_true, true_and, and_false, false_and, ↓reduceIte]; done) | (simp only [loF, vS, bI, c3, c4, not_false_eq_true, not_true_eq_false, and_self, and_true, true_and, and_false, false_and, ↓reduceIte]; rfl) | (simp [loF, vS, bI, c3, c4]; done) | rfl⟩)
    · refine v_iconst C 1 dX4_lose_33 (by decide) ?_
      refine v_goto C 38 dX4_lose_34 (by decide) ?_
      exact v_reti C hA dX4_lose_38 rfl (⟨by first | (simp only [loF, vS, bI, c3, c4, not_false_eq_true, not_true_eq_false, and_self, and_true, true_and, and_false, false_and, ↓reduceIte]; done) | (simp only [loF, vS, bI, c3, c4, not_false_eq_true, not_true_eq_false, and_self, and_true, true_and, and_false, false_and, ↓reduceIte]; rfl) | (simp [loF, vS, bI, c3, c4]; done) | rfl, by first | (simp only [loF, vS, bI, c3, c4, not_false_eq_true, not_true_eq_false, and_self, and_true, true_and, and_false, false_and, ↓reduceIte]; done) | (simp only [loF, vS, bI, c3, c4, not_false_eq_true, not_true_eq_false, and_self, and_true, true_and, and_false, false_and, ↓reduceIte]; rfl) | (simp [loF, vS, bI, c3, c4]; done) | rfl⟩)
  · refine v_eqi 0 (bI_f c3) ?_
    refine v_if_ne C 9 dX4_lose_4 (by decide) (fun h => absurd h (by decide)) (fun _ => ?_)
    refine v_iconst C (-1) dX4_lose_7 (by decide) ?_
    exact v_reti C hA dX4_lose_8 rfl (⟨by first | (simp only [loF, vS, bI, c3, not_false_eq_true, not_true_eq_false, and_self, and_true, true_and, and_false, false_and, ↓reduceIte]; done) | (simp only [loF, vS, bI, c3, not_false_eq_true, not_true_eq_false, and_self, and_true, true_and, and_false, false_and, ↓reduceIte]; rfl) | (simp [loF, vS, bI, c3]; done) | rfl, by first | (simp only [loF, vS, bI, c3, not_false_eq_true, not_true_eq_false, and_self, and_true, true_and, and_false, false_and, ↓reduceIte]; done) | (simp only [loF, vS, bI, c3, not_false_eq_true, not_true_eq_false, and_self, and_true, true_and, and_false, false_and, ↓reduceIte]; rfl) | (simp [loF, vS, bI, c3]; done) | rfl⟩)
set_option maxHeartbeats 4000000 in
set_option maxRecDepth 100000 in
theorem m_X4_put {l : Launch} {D : va_G} {cI cB cS : ClassId} (a : Nat → Nat) (k g : Nat) (tr : Int32) (fa : Int32) (hs : Int32) (sl : Int32) (sc : Nat → Int32) (q : Int32) (i : Int32) (v : Int32) (hk : k < 4) (hg : g ≤ 60) (hq : vS q → q = nI k) : Mi l yX4_put cX4_put 5 (some .int) 1 21 D cI cB cS [.ref (a 0), .int q, .int i, .int v] [oC a tr fa, aS a cS, oS a k hs sl (nI g), ia (a (14 + k)) cI 60 sc] (fun r w => r = puF q hs g i ∧ w = [oC a tr (puT q hs g i), aS a cS, oS a k hs sl (nI g), ia (a (14 + k)) cI 60 (if puOk q hs g i then upd sc (zN i) (cutF sl v) else sc)]) := by
  refine Mi.of (by decide) (Nat.le_of_ble_eq_true rfl) ?_
  intro zp ze zs zm zb zt zc zz zA hA C hnm
  refine v_lv0 [(0, .ref (a 0)), (1, .int q), (2, .int i), (3, .int v)] rfl ?_
  refine v_aload_n C dX4_put_0 0 rfl ?_
  refine v_iconst C 0 dX4_put_1 (by decide) ?_
  refine v_put C p_X4_45 [oC a tr 0, aS a cS, oS a k hs sl (nI g), ia (a (14 + k)) cI 60 sc] dX4_put_2 0 rfl rfl rfl (Nat.le_of_ble_eq_true rfl) rfl ?_
  refine v_iload_n C dX4_put_5 1 rfl ?_
  refine v_callSi C l_X4_49 (m_X4_isSheet q) (by decide) dX4_put_6 [] rfl rfl (rest := []) rfl (Nat.le_of_ble_eq_true rfl) (by decide) (fun r1 h2 => ?_)
  subst h2
  by_cases c3 : vSb q = true
  · refine v_eqi 1 (bI_t c3) ?_
    refine v_if_ne C 14 dX4_put_9 (by decide) (fun _ => ?_) (fun h => absurd h (by decide))
    have hqk := hq c3
    refine v_aload_n C dX4_put_14 0 rfl ?_
    refine v_get C f_X4_13 dX4_put_15 0 rfl rfl ?_
    refine v_iload_n C dX4_put_18 1 rfl ?_
    refine v_aaldN C dX4_put_19 1 rfl k hqk hk (by decide) (a (10 + k)) rfl ?_
    refine v_astore C [(4, .ref (a (10 + k))), (0, .ref (a 0)), (1, .int q), (2, .int i), (3, .int v)] dX4_put_20 (by decide) rfl ?_
    refine v_aload C dX4_put_22 0 rfl ?_
    refine v_get C f_X4_186 dX4_put_24 2 rfl rfl ?_
    refine v_if_ne C 36 dX4_put_27 (by decide) (fun c4 => ?_) (fun c4 => ?_)
    · refine v_aload C dX4_put_36 0 rfl ?_
      refine v_iload_n C dX4_put_38 3 rfl ?_
      refine v_callRi C l_X4_190 (m_X1_isPlace a k hs sl (nI g) i) (by decide) dX4_put_39 [2] rfl 2 rfl rfl rfl (rest := []) rfl (Nat.le_of_ble_eq_true rfl) (by decide) (fun r5 h6 => ?_)
      subst h6
      by_cases c7 : ¬ i < 0 ∧ ¬ (nI g) ≤ i
      · refine v_eqi 1 (bI_t c7) ?_
        refine v_if_ne C 51 dX4_put_42 (by decide) (fun _ => ?_) (fun h => absurd h (by decide))
        obtain ⟨iN, hiN, rfl⟩ := ix_of' (by omega) c7
        have ziN : (nI iN).toNatClampNeg = iN := nI_clamp (by omega)
        refine v_aload C dX4_put_51 0 rfl ?_
        refine v_get C f_X4_193 dX4_put_53 2 rfl rfl ?_
        refine v_iload_n C dX4_put_56 3 rfl ?_
        refine v_aload C dX4_put_57 0 rfl ?_
        refine v_iload_n C dX4_put_59 4 rfl ?_
        refine v_callRi C l_X4_196 (m_X1_cut a k hs sl (nI g) v) (by decide) dX4_put_60 [2] rfl 2 rfl rfl rfl (rest := [.int (nI iN), .ref (a (14 + k))]) rfl (Nat.le_of_ble_eq_true rfl) (by decide) (fun r8 h9 => ?_)
        subst h9
        refine v_iastN C [oC a tr 0, aS a cS, oS a k hs sl (nI g), ia (a (14 + k)) cI 60 (upd sc iN (cutF sl v))] dX4_put_63 3 rfl iN rfl (by omega) (by decide) rfl ?_
        refine v_iconst C 1 dX4_put_64 (by decide) ?_
        exact v_reti C hA dX4_put_65 rfl (⟨by first | (simp only [puF, puT, puOk, vS, bI, ziN, c3, c4, c7, not_false_eq_true, not_true_eq_false, and_self, and_true, true_and, and_false, false_and, ↓reduceIte]; done) | (simp only [puF, puT, puOk, vS, bI, ziN, c3, c4, c7, not_false_eq_true, not_true_eq_false, and_self, and_true, true_and, and_false, false_and, ↓reduceIte]; rfl) | (simp [puF, puT, puOk, vS, bI, ziN, c3, c4, c7]; done) | rfl, by first | (simp only [puF, puT, puOk, vS, bI, ziN, c3, c4, c7, not_false_eq_true, not_true_eq_false, and_self, and_true, true_and, and_false, false_and, ↓reduceIte]; done) | (simp only [puF, puT, puOk, vS, bI, ziN, c3, c4, c7, not_false_eq_true, not_true_eq_false, and_self, and_true, true_and, and_false, false_and, ↓reduceIte]; rfl) | (simp [puF, puT, puOk, vS, bI, ziN, c3, c4, c7]; done) | rfl⟩)
      · refine v_eqi 0 (bI_f c7) ?_
        refine v_if_ne C 51 dX4_put_42 (by decide) (fun h => absurd h (by decide)) (fun _ => ?_)
        refine v_aload_n C dX4_put_45 1 rfl ?_
        refine v_iconst C 3 dX4_put_46 (by decide) ?_
        refine v_callMi C l_X4_60 (m_X4_faulty a tr 0 3) (by decide) dX4_put_47 [0] [1, 2, 3] (wr := [aS a cS, oS a k hs sl (nI g), ia (a (14 + k)) cI 60 sc]) (by decide) rfl rfl (by decide) (by decide) 0 rfl rfl rfl (rest := []) rfl (Nat.le_of_ble_eq_true rfl) (by decide) (fun r12 w10 h11 => ?_)
        obtain ⟨rfl, rfl⟩ := h11
        refine v_ws0 [aS a cS, oS a k hs sl (nI g), ia (a (14 + k)) cI 60 sc, oC a tr (3 : Int32)] rfl ?_
        refine v_perm (ws' := [oC a tr (3 : Int32), aS a cS, oS a k hs sl (nI g), ia (a (14 + k)) cI 60 sc]) [3, 0, 1, 2] (by decide) rfl ?_
        exact v_reti C hA dX4_put_50 rfl (⟨by first | (simp only [puF, puT, puOk, vS, bI, c3, c4, c7, not_false_eq_true, not_true_eq_false, and_self, and_true, true_and, and_false, false_and, ↓reduceIte]; done) | (simp only [puF, puT, puOk, vS, bI, c3, c4, c7, not_false_eq_true, not_true_eq_false, and_self, and_true, true_and, and_false, false_and, ↓reduceIte]; rfl) | (simp [puF, puT, puOk, vS, bI, c3, c4, c7]; done) | rfl, by first | (simp only [puF, puT, puOk, vS, bI, c3, c4, c7, not_false_eq_true, not_true_eq_false, and_self, and_true, true_and, and_false, false_and, ↓reduceIte]; done) | (simp only [puF, puT, puOk, vS, bI, c3, c4, c7, not_false_eq_true, not_true_eq_false, and_self, and_true, true_and, and_false, false_and, ↓reduceIte]; rfl) | (simp [puF, puT, puOk, vS, bI, c3, c4, c7]; done) | rfl⟩)
    · refine v_aload_n C dX4_put_30 1 rfl ?_
      refine v_iconst C 1 dX4_put_31 (by decide) ?_
      refine v_callMi C l_X4_60 (m_X4_faulty a tr 0 1) (by decide) dX4_put_32 [0] [1, 2, 3] (wr := [aS a cS, oS a k hs sl (nI g), ia (a (14 + k)) cI 60 sc]) (by decide) rfl rfl (by decide) (by decide) 0 rfl rfl rfl (rest := []) rfl (Nat.le_of_ble_eq_true rfl) (by decide) (fun r15 w13 h14 => ?_)
      obtain ⟨rfl, rfl⟩ := h14
      refine v_ws0 [aS a cS, oS a k hs sl (nI g), ia (a (14 + k)) cI 60 sc, oC a tr (1 : Int32)] rfl ?_
      refine v_perm (ws' := [oC a tr (1 : Int32), aS a cS, oS a k hs sl (nI g), ia (a (14 + k)) cI 60 sc]) [3, 0, 1, 2] (by decide) rfl ?_
      exact v_reti C hA dX4_put_35 rfl (⟨by first | (simp only [puF, puT, puOk, vS, bI, c3, c4, not_false_eq_true, not_true_eq_false, and_self, and_true, true_and, and_false, false_and, ↓reduceIte]; done) | (simp only [puF, puT, puOk, vS, bI, c3, c4, not_false_eq_true, not_true_eq_false, and_self, and_true, true_and, and_false, false_and, ↓reduceIte]; rfl) | (simp [puF, puT, puOk, vS, bI, c3, c4]; done) | rfl, by first | (simp only [puF, puT, puOk, vS, bI, c3, c4, not_false_eq_true, not_true_eq_false, and_self, and_true, true_and, and_false, false_and, ↓reduceIte]; done) | (simp only [puF, puT, puOk, vS, bI, c3, c4, not_false_eq_true, not_true_eq_false, and_self, and_true, true_and, and_false, false_and, ↓reduceIte]; rfl) | (simp [puF, puT, puOk, vS, bI, c3, c4]; done) | rfl⟩)
  · refine v_eqi 0 (bI_f c3) ?_
    refine v_if_ne C 14 dX4_put_9 (by decide) (fun h => absurd h (by decide)) (fun _ => ?_)
    refine v_iconst C (-1) dX4_put_12 (by decide) ?_
    exact v_reti C hA dX4_put_13 rfl (⟨by first | (simp only [puF, puT, puOk, vS, bI, c3, not_false_eq_true, not_true_eq_false, and_self, and_true, true_and, and_false, false_and, ↓reduceIte]; done) | (simp only [puF, puT, puOk, vS, bI, c3, not_false_eq_true, not_true_eq_false, and_self, and_true, true_and, and_false, false_and, ↓reduceIte]; rfl) | (simp [puF, puT, puOk, vS, bI, c3]; done) | rfl, by first | (simp only [puF, puT, puOk, vS, bI, c3, not_false_eq_true, not_true_eq_false, and_self, and_true, true_and, and_false, false_and, ↓reduceIte]; done) | (simp only [puF, puT, puOk, vS, bI, c3, not_false_eq_true, not_true_eq_false, and_self, and_true, true_and, and_false, false_and, ↓reduceIte]; rfl) | (simp [puF, puT, puOk, vS, bI, c3]; done) | rfl⟩)
set_option maxHeartbeats 4000000 in
set_option maxRecDepth 100000 in
theorem m_X4_cell {l : Launch} {D : va_G} {cI cB cS : ClassId} (a : Nat → Nat) (k g : Nat) (tr : Int32) (fa : Int32) (hs : Int32) (sl : Int32) (sc : Nat → Int32) (q : Int32) (i : Int32) (x : Int32) (hk : k < 4) (hg : g ≤ 60) (hq : vS q → q = nI k) : Ml l yX4_cell cX4_cell 6 1 21 D cI cB cS [.ref (a 0), .int q, .int i, .int x] [oC a tr fa, aS a cS, oS a k hs sl (nI g), ia (a (14 + k)) cI 60 sc] (fun r w => r = ceF q hs sl g sc i x ∧ w = [oC a tr (ceT q hs sl g i x), aS a cS, oS a k hs sl (nI g), ia (a (14 + k)) cI 60 sc]) := by
  refine Ml.of (by decide) (Nat.le_of_ble_eq_true rfl) ?_
  intro zp ze zs zm zb zt zc zz zA hA C hnm
  refine v_lv0 [(0, .ref (a 0)), (1, .int q), (2, .int i), (3, .int x)] rfl ?_
  refine v_aload_n C dX4_cell_0 0 rfl ?_
  refine v_iconst C 0 dX4_cell_1 (by decide) ?_
  refine v_put C p_X4_45 [oC a tr 0, aS a cS, oS a k hs sl (nI g), ia (a (14 + k)) cI 60 sc] dX4_cell_2 0 rfl rfl rfl (Nat.le_of_ble_eq_true rfl) rfl ?_
  refine v_iload_n C dX4_cell_5 1 rfl ?_
  refine v_callSi C l_X4_49 (m_X4_isSheet q) (by decide) dX4_cell_6 [] rfl rfl (rest := []) rfl (Nat.le_of_ble_eq_true rfl) (by decide) (fun r1 h2 => ?_)
  subst h2
  by_cases c3 : vSb q = true
  · refine v_eqi 1 (bI_t c3) ?_
    refine v_if_eq C 19 dX4_cell_9 (by decide) (fun h => absurd h (by decide)) (fun _ => ?_)
    refine v_iload_n C dX4_cell_12 3 rfl ?_
    refine v_callSi C l_X4_53 (m_X4_isLane x) (by decide) dX4_cell_13 [] rfl rfl (rest := []) rfl (Nat.le_of_ble_eq_true rfl) (by decide) (fun r4 h5 => ?_)
    subst h5
    by_cases c6 : vLb x = true
    · refine v_eqi 1 (bI_t c6) ?_
      refine v_if_ne C 23 dX4_cell_16 (by decide) (fun _ => ?_) (fun h => absurd h (by decide))
      have hqk := hq c3
      refine v_aload_n C dX4_cell_23 0 rfl ?_
      refine v_get C f_X4_13 dX4_cell_24 0 rfl rfl ?_
      refine v_iload_n C dX4_cell_27 1 rfl ?_
      refine v_aaldN C dX4_cell_28 1 rfl k hqk hk (by decide) (a (10 + k)) rfl ?_
      refine v_astore C [(4, .ref (a (10 + k))), (0, .ref (a 0)), (1, .int q), (2, .int i), (3, .int x)] dX4_cell_29 (by decide) rfl ?_
      refine v_aload C dX4_cell_31 0 rfl ?_
      refine v_iload_n C dX4_cell_33 4 rfl ?_
      refine v_callRi C l_X4_199 (m_X1_faultOfLane a k hs sl (nI g) x) (by decide) dX4_cell_34 [2] rfl 2 rfl rfl rfl (rest := []) rfl (Nat.le_of_ble_eq_true rfl) (by decide) (fun r7 h8 => ?_)
      subst h8
      refine v_istore C [(5, .int (folF hs sl x)), (4, .ref (a (10 + k))), (0, .ref (a 0)), (1, .int q), (2, .int i), (3, .int x)] dX4_cell_37 (by decide) rfl ?_
      refine v_iload C dX4_cell_39 0 rfl ?_
      refine v_if_ne C 56 dX4_cell_41 (by decide) (fun c9 => ?_) (fun c9 => ?_)
      · refine v_aload_n C dX4_cell_56 2 rfl ?_
        refine v_iload C dX4_cell_57 0 rfl ?_
        refine v_put C p_X4_45 [oC a tr (folF hs sl x), aS a cS, oS a k hs sl (nI g), ia (a (14 + k)) cI 60 sc] dX4_cell_59 0 rfl rfl rfl (Nat.le_of_ble_eq_true rfl) rfl ?_
        refine v_iload C dX4_cell_62 0 rfl ?_
        refine v_if_ne C 78 dX4_cell_64 (by decide) (fun c10 => ?_) (fun c10 => ?_)
        · refine v_ldc2 C k_X4_179 dX4_cell_78 ?_
          exact v_retl C hA dX4_cell_81 (⟨by first | (simp only [ceF, ceT, vS, vL, bI, c3, c6, c9, c10, not_false_eq_true, not_true_eq_false, and_self, and_true, true_and, and_false, false_and, ↓reduceIte]; done) | (simp only [ceF, ceT, vS, vL, bI, c3, c6, c9, c10, not_false_eq_true, not_true_eq_false, and_self, and_true, true_and, and_false, false_and, ↓reduceIte]; rfl) | (simp [ceF, ceT, vS, vL, bI, c3, c6, c9, c10]; done) | rfl, by first | (simp only [ceF, ceT, vS, vL, bI, c3, c6, c9, c10, not_false_eq_true, not_true_eq_false, and_self, and_true, true_and, and_false, false_and, ↓reduceIte]; done) | (simp only [ceF, ceT, vS, vL, bI, c3, c6, c9, c10, not_false_eq_true, not_true_eq_false, and_self, and_true, true_and, and_false, false_and, ↓reduceIte]; rfl) | (simp [ceF, ceT, vS, vL, bI, c3, c6, c9, c10]; done) | rfl⟩)
        · exact absurd c10 c9
      · refine v_aload C dX4_cell_44 1 rfl ?_
        refine v_iload_n C dX4_cell_46 4 rfl ?_
        refine v_callRi C l_X4_190 (m_X1_isPlace a k hs sl (nI g) i) (by decide) dX4_cell_47 [2] rfl 2 rfl rfl rfl (rest := []) rfl (Nat.le_of_ble_eq_true rfl) (by decide) (fun r11 h12 => ?_)
        subst h12
        by_cases c13 : ¬ i < 0 ∧ ¬ (nI g) ≤ i
        · refine v_eqi 1 (bI_t c13) ?_
          refine v_if_ne C 56 dX4_cell_50 (by decide) (fun _ => ?_) (fun h => absurd h (by decide))
          refine v_aload_n C dX4_cell_56 2 rfl ?_
          refine v_iload C dX4_cell_57 0 rfl ?_
          refine v_put C p_X4_45 [oC a tr (folF hs sl x), aS a cS, oS a k hs sl (nI g), ia (a (14 + k)) cI 60 sc] dX4_cell_59 0 rfl rfl rfl (Nat.le_of_ble_eq_true rfl) rfl ?_
          refine v_iload C dX4_cell_62 0 rfl ?_
          refine v_if_ne C 78 dX4_cell_64 (by decide) (fun c14 => ?_) (fun c14 => ?_)
          · exact absurd c9 c14
          · obtain ⟨iN, hiN, rfl⟩ := ix_of' (by omega) c13
            have ziN : (nI iN).toNatClampNeg = iN := nI_clamp (by omega)
            refine v_aload C dX4_cell_67 1 rfl ?_
            refine v_get C f_X4_193 dX4_cell_69 2 rfl rfl ?_
            refine v_iload_n C dX4_cell_72 4 rfl ?_
            refine v_ialdN C dX4_cell_73 3 rfl iN rfl (by omega) (by decide) ?_
            refine v_i2l C dX4_cell_74 ?_
            refine v_goto C 81 dX4_cell_75 (by decide) ?_
            exact v_retl C hA dX4_cell_81 (⟨by first | (simp only [ceF, ceT, vS, vL, bI, ziN, c3, c6, c9, c13, c14, not_false_eq_true, not_true_eq_false, and_self, and_true, true_and, and_false, false_and, ↓reduceIte]; done) | (simp only [ceF, ceT, vS, vL, bI, ziN, c3, c6, c9, c13, c14, not_false_eq_true, not_true_eq_false, and_self, and_true, true_and, and_false, false_and, ↓reduceIte]; rfl) | (simp [ceF, ceT, vS, vL, bI, ziN, c3, c6, c9, c13, c14]; done) | rfl, by first | (simp only [ceF, ceT, vS, vL, bI, ziN, c3, c6, c9, c13, c14, not_false_eq_true, not_true_eq_false, and_self, and_true, true_and, and_false, false_and, ↓reduceIte]; done) | (simp only [ceF, ceT, vS, vL, bI, ziN, c3, c6, c9, c13, c14, not_false_eq_true, not_true_eq_false, and_self, and_true, true_and, and_false, false_and, ↓reduceIte]; rfl) | (simp [ceF, ceT, vS, vL, bI, ziN, c3, c6, c9, c13, c14]; done) | rfl⟩)
        · refine v_eqi 0 (bI_f c13) ?_
          refine v_if_ne C 56 dX4_cell_50 (by decide) (fun h => absurd h (by decide)) (fun _ => ?_)
          refine v_iconst C 3 dX4_cell_53 (by decide) ?_
          refine v_istore C [(5, .int 3), (4, .ref (a (10 + k))), (0, .ref (a 0)), (1, .int q), (2, .int i), (3, .int x)] dX4_cell_54 (by decide) rfl ?_
          refine v_aload_n C dX4_cell_56 2 rfl ?_
          refine v_iload C dX4_cell_57 0 rfl ?_
          refine v_put C p_X4_45 [oC a tr 3, aS a cS, oS a k hs sl (nI g), ia (a (14 + k)) cI 60 sc] dX4_cell_59 0 rfl rfl rfl (Nat.le_of_ble_eq_true rfl) rfl ?_
          refine v_iload C dX4_cell_62 0 rfl ?_
          refine v_if_ne C 78 dX4_cell_64 (by decide) (fun _ => ?_) (fun h => absurd h (by decide))
          refine v_ldc2 C k_X4_179 dX4_cell_78 ?_
          exact v_retl C hA dX4_cell_81 (⟨by first | (simp only [ceF, ceT, vS, vL, bI, c3, c6, c9, c13, not_false_eq_true, not_true_eq_false, and_self, and_true, true_and, and_false, false_and, ↓reduceIte]; done) | (simp only [ceF, ceT, vS, vL, bI, c3, c6, c9, c13, not_false_eq_true, not_true_eq_false, and_self, and_true, true_and, and_false, false_and, ↓reduceIte]; rfl) | (simp [ceF, ceT, vS, vL, bI, c3, c6, c9, c13]; done) | rfl, by first | (simp only [ceF, ceT, vS, vL, bI, c3, c6, c9, c13, not_false_eq_true, not_true_eq_false, and_self, and_true, true_and, and_false, false_and, ↓reduceIte]; done) | (simp only [ceF, ceT, vS, vL, bI, c3, c6, c9, c13, not_false_eq_true, not_true_eq_false, and_self, and_true, true_and, and_false, false_and, ↓reduceIte]; rfl) | (simp [ceF, ceT, vS, vL, bI, c3, c6, c9, c13]; done) | rfl⟩)
    · refine v_eqi 0 (bI_f c6) ?_
      refine v_if_ne C 23 dX4_cell_16 (by decide) (fun h => absurd h (by decide)) (fun _ => ?_)
      refine v_ldc2 C k_X4_179 dX4_cell_19 ?_
      exact v_retl C hA dX4_cell_22 (⟨by first | (simp only [ceF, ceT, vS, vL, bI, c3, c6, not_false_eq_true, not_true_eq_false, and_self, and_true, true_and, and_false, false_and, ↓reduceIte]; done) | (simp only [ceF, ceT, vS, vL, bI, c3, c6, not_false_eq_true, not_true_eq_false, and_self, and_true, true_and, and_false, false_and, ↓reduceIte]; rfl) | (simp [ceF, ceT, vS, vL, bI, c3, c6]; done) | rfl, by first | (simp only [ceF, ceT, vS, vL, bI, c3, c6, not_false_eq_true, not_true_eq_false, and_self, and_true, true_and, and_false, false_and, ↓reduceIte]; done) | (simp only [ceF, ceT, vS, vL, bI, c3, c6, not_false_eq_true, not_true_eq_false, and_self, and_true, true_and, and_false, false_and, ↓reduceIte]; rfl) | (simp [ceF, ceT, vS, vL, bI, c3, c6]; done) | rfl⟩)
  · refine v_eqi 0 (bI_f c3) ?_
    refine v_if_eq C 19 dX4_cell_9 (by decide) (fun _ => ?_) (fun h => absurd h (by decide))
    refine v_ldc2 C k_X4_179 dX4_cell_19 ?_
    exact v_retl C hA dX4_cell_22 (⟨by first | (simp only [ceF, ceT, vS, vL, bI, c3, not_false_eq_true, not_true_eq_false, and_self, and_true, true_and, and_false, false_and, ↓reduceIte]; done) | (simp only [ceF, ceT, vS, vL, bI, c3, not_false_eq_true, not_true_eq_false, and_self, and_true, true_and, and_false, false_and, ↓reduceIte]; rfl) | (simp [ceF, ceT, vS, vL, bI, c3]; done) | rfl, by first | (simp only [ceF, ceT, vS, vL, bI, c3, not_false_eq_true, not_true_eq_false, and_self, and_true, true_and, and_false, false_and, ↓reduceIte]; done) | (simp only [ceF, ceT, vS, vL, bI, c3, not_false_eq_true, not_true_eq_false, and_self, and_true, true_and, and_false, false_and, ↓reduceIte]; rfl) | (simp [ceF, ceT, vS, vL, bI, c3]; done) | rfl⟩)
