def soF (hs sl : Int32) : Int32 := if hs = 0 then -9 else sl
theorem so_9 {hs sl : Int32} (h : ¬ hs = 0 → ¬ sl = -9) : soF hs sl = -9 ↔ hs = 0 := by
  unfold soF
  by_cases e : hs = 0
  · simp [e]
  · simp only [e, if_false, iff_false]; exact h e
def fil (k : Nat) (f : Nat → Int32) (n : Nat) : Nat → Int32 := fun p => if 60 * k ≤ p ∧ p < 60 * k + n then 0 else f p
theorem fil_0 (k : Nat) (f : Nat → Int32) : fil k f 0 = f := by
  funext p
  unfold fil
  rw [if_neg (by omega)]
theorem fil_s (k : Nat) (f : Nat → Int32) (n : Nat) : upd (fil k f n) (60 * k + n) 0 = fil k f (n + 1) := by
  funext p
  unfold upd fil
  by_cases e : p = 60 * k + n
  · rw [if_pos e, if_pos (by omega)]
  · rw [if_neg e]
    by_cases e2 : 60 * k ≤ p ∧ p < 60 * k + n
    · rw [if_pos e2, if_pos (by omega)]
    · rw [if_neg e2, if_neg (by omega)]
theorem wib_g {g : Nat} (hg : g ≤ 60) {i : Int32} : wib i 0 (nI g - 1) = true ↔ ¬ i < 0 ∧ ¬ nI g ≤ i := by
  rw [wib_iff]
  refine and_congr Iff.rfl ?_
  have e : (nI g - 1).toInt = (g : Int) - 1 := by
    rw [Int32.toInt_sub, nI_toInt (by omega)]
    have : (1 : Int32).toInt = 1 := by decide
    rw [this]
    apply Int.bmod_eq_of_le <;> omega
  rw [Int32.lt_iff_toInt_lt, Int32.le_iff_toInt_le, e, nI_toInt (by omega)]
  omega
set_option maxHeartbeats 4000000 in
set_option maxRecDepth 100000 in
theorem m_X5_sheet {l : Launch} {D : va_G} {cI cB cS : ClassId} (b : Nat → Nat) (k g : Nat) (hs sl : Int32) (n_fa : Int32) (n_tr : Int32) (n_mi : Int32) (n_ju : Int32) (n_co : Int32) (n_cr : Int32) (n_at : Int32) (n_rm : Int32) (n_rj : Int32) (n_rc : Int32) (n_nw : Int32) (n_ov : Int32) (n_rl : Int32) (n_rd : Int32) (n_so : Nat → Int32) (n_sl : Nat → Int32) (n_ce : Nat → Int32) (q : Int32) (x : Int32) (n : Int32) (hk : k < 4) (hg : g ≤ 60) (hq : vS q → q = nI k) (hso : n_so k = soF hs sl) (hsn : n_sl k = nI g) (hlv : ¬ hs = 0 → ¬ sl = -9) : Mi l yX5_sheet cX5_sheet 5 (some .int) 2 42 D cI cB cS [.ref (b 0), .int q, .int x, .int n] [oN b n_fa n_tr n_mi n_ju n_co n_cr n_at n_rm n_rj n_rc n_nw n_ov n_rl n_rd, ia (b 2) cI 4 n_so, ia (b 3) cI 4 n_sl, ia (b 4) cI 240 n_ce] (fun r w => r = shF q x n ∧ w = [oN b (shT q x n) n_tr n_mi n_ju n_co n_cr n_at n_rm n_rj n_rc n_nw n_ov n_rl n_rd, ia (b 2) cI 4 (if shOk q x n then upd n_so k x else n_so), ia (b 3) cI 4 (if shOk q x n then upd n_sl k n else n_sl), ia (b 4) cI 240 (if shOk q x n then fil k n_ce 60 else n_ce)]) := by
  refine Mi.of (by decide) (Nat.le_of_ble_eq_true rfl) ?_
  intro zp ze zs zm zb zt zc zz zA hA C hnm
  refine v_lv0 [(0, .ref (b 0)), (1, .int q), (2, .int x), (3, .int n)] rfl ?_
  refine v_aload_n C dX5_sheet_0 0 rfl ?_
  refine v_iconst C 0 dX5_sheet_1 (by decide) ?_
  refine v_put C p_X5_68 [oN b 0 n_tr n_mi n_ju n_co n_cr n_at n_rm n_rj n_rc n_nw n_ov n_rl n_rd, ia (b 2) cI 4 n_so, ia (b 3) cI 4 n_sl, ia (b 4) cI 240 n_ce] dX5_sheet_2 0 rfl rfl rfl (Nat.le_of_ble_eq_true rfl) rfl ?_
  refine v_iload_n C dX5_sheet_5 1 rfl ?_
  refine v_callSi C l_X5_87 (m_X5_isSheet q) (by decide) dX5_sheet_6 [] rfl rfl (rest := []) rfl (Nat.le_of_ble_eq_true rfl) (by decide) (fun r1 h2 => ?_)
  subst h2
  by_cases c3 : vSb q = true
  · refine v_eqi 1 (bI_t c3) ?_
    have eq := hq c3
    subst eq
    refine v_if_ne C 14 dX5_sheet_9 (by decide) (fun _ => ?_) (fun h => absurd h (by decide))
    refine v_iload_n C dX5_sheet_14 2 rfl ?_
    refine v_callSi C l_X5_91 (m_X5_isSort x) (by decide) dX5_sheet_15 [] rfl rfl (rest := []) rfl (Nat.le_of_ble_eq_true rfl) (by decide) (fun r4 h5 => ?_)
    subst h5
    by_cases c6 : vLb x = true
    · refine v_eqi 1 (bI_t c6) ?_
      refine v_if_eq C 27 dX5_sheet_18 (by decide) (fun h => absurd h (by decide)) (fun _ => ?_)
      refine v_iload_n C dX5_sheet_21 3 rfl ?_
      refine v_bipush C 60 dX5_sheet_22 (by decide) ?_
      refine v_icmp_le C 30 dX5_sheet_24 (by decide) (fun c7 => ?_) (fun c7 => ?_)
      · refine v_iload_n C dX5_sheet_30 3 rfl ?_
        refine v_if_ge C 40 dX5_sheet_31 (by decide) (fun c8 => ?_) (fun c8 => ?_)
        · obtain ⟨nN, hnN, rfl⟩ := ix_le (n := 60) (by omega) (Int32.not_lt.mpr c8) c7
          have znN : (nI nN).toNatClampNeg = nN := nI_clamp (by omega)
          refine v_aload_n C dX5_sheet_40 0 rfl ?_
          refine v_get C f_X5_9 dX5_sheet_41 0 rfl rfl ?_
          refine v_iload_n C dX5_sheet_44 1 rfl ?_
          refine v_iload_n C dX5_sheet_45 2 rfl ?_
          refine v_iastN C [oN b 0 n_tr n_mi n_ju n_co n_cr n_at n_rm n_rj n_rc n_nw n_ov n_rl n_rd, ia (b 2) cI 4 (upd n_so k x), ia (b 3) cI 4 n_sl, ia (b 4) cI 240 n_ce] dX5_sheet_46 1 rfl k rfl (by omega) (by decide) rfl ?_
          refine v_aload_n C dX5_sheet_47 0 rfl ?_
          refine v_get C f_X5_13 dX5_sheet_48 0 rfl rfl ?_
          refine v_iload_n C dX5_sheet_51 1 rfl ?_
          refine v_iload_n C dX5_sheet_52 3 rfl ?_
          refine v_iastN C [oN b 0 n_tr n_mi n_ju n_co n_cr n_at n_rm n_rj n_rc n_nw n_ov n_rl n_rd, ia (b 2) cI 4 (upd n_so k x), ia (b 3) cI 4 (upd n_sl k (nI nN)), ia (b 4) cI 240 n_ce] dX5_sheet_53 2 rfl k rfl (by omega) (by decide) rfl ?_
          refine v_iconst C 0 dX5_sheet_54 (by decide) ?_
          refine v_istore C [(4, .int 0), (0, .ref (b 0)), (1, .int (nI k)), (2, .int x), (3, .int (nI nN))] dX5_sheet_55 (by decide) rfl ?_
          refine v_ws0 [oN b 0 n_tr n_mi n_ju n_co n_cr n_at n_rm n_rj n_rc n_nw n_ov n_rl n_rd, ia (b 2) cI 4 (upd n_so k x), ia (b 3) cI 4 (upd n_sl k (nI nN)), ia (b 4) cI 240 (fil k n_ce 0)] (by rw [fil_0]) ?_
          have lp : ∀ (n_10 : Nat) (p : Nat), 60 - p < n_10 → (p ≤ 60) → V zp l ze (rmOf 2 42) zs zm [.ref (b 0), .int (nI k), .int x, .int (nI nN)].toArray zb zt zc D (IM zA zs) (QMi zb [.ref (b 0), .int (nI k), .int x, .int (nI nN)].toArray zs D cI cB cS [oN b n_fa n_tr n_mi n_ju n_co n_cr n_at n_rm n_rj n_rc n_nw n_ov n_rl n_rd, ia (b 2) cI 4 n_so, ia (b 3) cI 4 n_sl, ia (b 4) cI 240 n_ce] zz (fun r w => r = shF (nI k) x (nI nN) ∧ w = [oN b (shT (nI k) x (nI nN)) n_tr n_mi n_ju n_co n_cr n_at n_rm n_rj n_rc n_nw n_ov n_rl n_rd, ia (b 2) cI 4 (if shOk (nI k) x (nI nN) then upd n_so k x else n_so), ia (b 3) cI 4 (if shOk (nI k) x (nI nN) then upd n_sl k (nI nN) else n_sl), ia (b 4) cI 240 (if shOk (nI k) x (nI nN) then fil k n_ce 60 else n_ce)])) 0 0 5 [oN b 0 n_tr n_mi n_ju n_co n_cr n_at n_rm n_rj n_rc n_nw n_ov n_rl n_rd, ia (b 2) cI 4 (upd n_so k x), ia (b 3) cI 4 (upd n_sl k (nI nN)), ia (b 4) cI 240 (fil k n_ce p)] [(4, .int (nI p)), (0, .ref (b 0)), (1, .int (nI k)), (2, .int x), (3, .int (nI nN))] 57 [] := by
            intro n_10
            induction n_10 with
            | zero => intro p b9; exact absurd b9 (by omega)
            | succ n_10 ihn_10 =>
              intro p b9 hp
              refine v_iload C dX5_sheet_57 0 rfl ?_
              refine v_bipush C 60 dX5_sheet_59 (by decide) ?_
              refine v_icmp_ge C 83 dX5_sheet_61 (by decide) (fun c11 => ?_) (fun c11 => ?_)
              · have nc11 : 60 ≤ p := nI_leD c11 (by omega)
                have hpe : p = 60 := by omega
                refine v_ws0 [oN b 0 n_tr n_mi n_ju n_co n_cr n_at n_rm n_rj n_rc n_nw n_ov n_rl n_rd, ia (b 2) cI 4 (upd n_so k x), ia (b 3) cI 4 (upd n_sl k (nI nN)), ia (b 4) cI 240 (fil k n_ce 60)] (by rw [hpe]) ?_
                refine v_iconst C 1 dX5_sheet_83 (by decide) ?_
                exact v_reti C hA dX5_sheet_84 rfl (⟨by first | (simp only [shF, shT, shOk, vS, vL, bI, znN, c3, c6, c7, c8, c11, nc11, Nat.not_lt.mpr nc11, not_false_eq_true, not_true_eq_false, and_self, and_true, true_and, and_false, false_and, ↓reduceIte]; done) | (simp only [shF, shT, shOk, vS, vL, bI, znN, c3, c6, c7, c8, c11, nc11, Nat.not_lt.mpr nc11, not_false_eq_true, not_true_eq_false, and_self, and_true, true_and, and_false, false_and, ↓reduceIte]; rfl) | (simp [shF, shT, shOk, vS, vL, bI, znN, c3, c6, c7, c8, c11, nc11, Nat.not_lt.mpr nc11]; done) | rfl, by first | (simp only [shF, shT, shOk, vS, vL, bI, znN, c3, c6, c7, c8, c11, nc11, Nat.not_lt.mpr nc11, not_false_eq_true, not_true_eq_false, and_self, and_true, true_and, and_false, false_and, ↓reduceIte]; done) | (simp only [shF, shT, shOk, vS, vL, bI, znN, c3, c6, c7, c8, c11, nc11, Nat.not_lt.mpr nc11, not_false_eq_true, not_true_eq_false, and_self, and_true, true_and, and_false, false_and, ↓reduceIte]; rfl) | (simp [shF, shT, shOk, vS, vL, bI, znN, c3, c6, c7, c8, c11, nc11, Nat.not_lt.mpr nc11]; done) | rfl⟩)
              · have nc11 : p < 60 := nI_ltD c11 (by omega)
                refine v_aload_n C dX5_sheet_64 1 rfl ?_
                refine v_get C f_X5_16 dX5_sheet_65 0 rfl rfl ?_
                refine v_bipush C 60 dX5_sheet_68 (by decide) ?_
                refine v_iload_n C dX5_sheet_70 2 rfl ?_
                refine v_imul C dX5_sheet_71 ?_
                refine v_eqi (nI (60 * k)) (pk_mul 60 k) ?_
                refine v_iload C dX5_sheet_72 0 rfl ?_
                refine v_iadd C dX5_sheet_74 ?_
                refine v_eqi (nI (60 * k + p)) (nI_add _ _) ?_
                refine v_iconst C 0 dX5_sheet_75 (by decide) ?_
                refine v_iastN C [oN b 0 n_tr n_mi n_ju n_co n_cr n_at n_rm n_rj n_rc n_nw n_ov n_rl n_rd, ia (b 2) cI 4 (upd n_so k x), ia (b 3) cI 4 (upd n_sl k (nI nN)), ia (b 4) cI 240 (upd (fil k n_ce p) (60 * k + p) 0)] dX5_sheet_76 3 rfl (60 * k + p) rfl (by omega) (by decide) rfl ?_
                refine v_ws0 [oN b 0 n_tr n_mi n_ju n_co n_cr n_at n_rm n_rj n_rc n_nw n_ov n_rl n_rd, ia (b 2) cI 4 (upd n_so k x), ia (b 3) cI 4 (upd n_sl k (nI nN)), ia (b 4) cI 240 (fil k n_ce (p + 1))] (by rw [← fil_s]) ?_
                refine v_iinc C (nI (p + 1)) [(4, .int (nI (p + 1))), (0, .ref (b 0)), (1, .int (nI k)), (2, .int x), (3, .int (nI nN))] 0 dX5_sheet_77 rfl (nI_inc _) (by decide) rfl ?_
                refine v_goto C 57 dX5_sheet_80 (by decide) ?_
                exact ihn_10 (p + 1) (by omega) (by omega)
          exact lp (60 - 0 + 1) 0 (by omega) (by omega)
        · refine v_aload_n C dX5_sheet_34 0 rfl ?_
          refine v_iconst C 4 dX5_sheet_35 (by decide) ?_
          refine v_callMi C l_X5_98 (m_X5_fails b 0 n_tr n_mi n_ju n_co n_cr n_at n_rm n_rj n_rc n_nw n_ov n_rl n_rd 4) (by decide) dX5_sheet_36 [0] [1, 2, 3] (wr := [ia (b 2) cI 4 n_so, ia (b 3) cI 4 n_sl, ia (b 4) cI 240 n_ce]) (by decide) rfl rfl (by decide) (by decide) 0 rfl rfl rfl (rest := []) rfl (Nat.le_of_ble_eq_true rfl) (by decide) (fun r14 w12 h13 => ?_)
          obtain ⟨rfl, rfl⟩ := h13
          refine v_ws0 [ia (b 2) cI 4 n_so, ia (b 3) cI 4 n_sl, ia (b 4) cI 240 n_ce, oN b (4 : Int32) n_tr n_mi n_ju n_co n_cr n_at n_rm n_rj n_rc n_nw n_ov n_rl n_rd] rfl ?_
          refine v_perm (ws' := [oN b (4 : Int32) n_tr n_mi n_ju n_co n_cr n_at n_rm n_rj n_rc n_nw n_ov n_rl n_rd, ia (b 2) cI 4 n_so, ia (b 3) cI 4 n_sl, ia (b 4) cI 240 n_ce]) [3, 0, 1, 2] (by decide) rfl ?_
          exact v_reti C hA dX5_sheet_39 rfl (⟨by first | (simp only [shF, shT, shOk, vS, vL, bI, c3, c6, c7, c8, not_false_eq_true, not_true_eq_false, and_self, and_true, true_and, and_false, false_and, ↓reduceIte]; done) | (simp only [shF, shT, shOk, vS, vL, bI, c3, c6, c7, c8, not_false_eq_true, not_true_eq_false, and_self, and_true, true_and, and_false, false_and, ↓reduceIte]; rfl) | (simp [shF, shT, shOk, vS, vL, bI, c3, c6, c7, c8]; done) | rfl, by first | (simp only [shF, shT, shOk, vS, vL, bI, c3, c6, c7, c8, not_false_eq_true, not_true_eq_false, and_self, and_true, true_and, and_false, false_and, ↓reduceIte]; done) | (simp only [shF, shT, shOk, vS, vL, bI, c3, c6, c7, c8, not_false_eq_true, not_true_eq_false, and_self, and_true, true_and, and_false, false_and, ↓reduceIte]; rfl) | (simp [shF, shT, shOk, vS, vL, bI, c3, c6, c7, c8]; done) | rfl⟩)
      · refine v_bipush C (-2) dX5_sheet_27 (by decide) ?_
        exact v_reti C hA dX5_sheet_29 rfl (⟨by first | (simp only [shF, shT, shOk, vS, vL, bI, c3, c6, c7, not_false_eq_true, not_true_eq_false, and_self, and_true, true_and, and_false, false_and, ↓reduceIte]; done) | (simp only [shF, shT, shOk, vS, vL, bI, c3, c6, c7, not_false_eq_true, not_true_eq_false, and_self, and_true, true_and, and_false, false_and, ↓reduceIte]; rfl) | (simp [shF, shT, shOk, vS, vL, bI, c3, c6, c7]; done) | rfl, by first | (simp only [shF, shT, shOk, vS, vL, bI, c3, c6, c7, not_false_eq_true, not_true_eq_false, and_self, and_true, true_and, and_false, false_and, ↓reduceIte]; done) | (simp only [shF, shT, shOk, vS, vL, bI, c3, c6, c7, not_false_eq_true, not_true_eq_false, and_self, and_true, true_and, and_false, false_and, ↓reduceIte]; rfl) | (simp [shF, shT, shOk, vS, vL, bI, c3, c6, c7]; done) | rfl⟩)
    · refine v_eqi 0 (bI_f c6) ?_
      refine v_if_eq C 27 dX5_sheet_18 (by decide) (fun _ => ?_) (fun h => absurd h (by decide))
      refine v_bipush C (-2) dX5_sheet_27 (by decide) ?_
      exact v_reti C hA dX5_sheet_29 rfl (⟨by first | (simp only [shF, shT, shOk, vS, vL, bI, c3, c6, not_false_eq_true, not_true_eq_false, and_self, and_true, true_and, and_false, false_and, ↓reduceIte]; done) | (simp only [shF, shT, shOk, vS, vL, bI, c3, c6, not_false_eq_true, not_true_eq_false, and_self, and_true, true_and, and_false, false_and, ↓reduceIte]; rfl) | (simp [shF, shT, shOk, vS, vL, bI, c3, c6]; done) | rfl, by first | (simp only [shF, shT, shOk, vS, vL, bI, c3, c6, not_false_eq_true, not_true_eq_false, and_self, and_true, true_and, and_false, false_and, ↓reduceIte]; done) | (simp only [shF, shT, shOk, vS, vL, bI, c3, c6, not_false_eq_true, not_true_eq_false, and_self, and_true, true_and, and_false, false_and, ↓reduceIte]; rfl) | (simp [shF, shT, shOk, vS, vL, bI, c3, c6]; done) | rfl⟩)
  · refine v_eqi 0 (bI_f c3) ?_
    refine v_if_ne C 14 dX5_sheet_9 (by decide) (fun h => absurd h (by decide)) (fun _ => ?_)
    refine v_iconst C (-1) dX5_sheet_12 (by decide) ?_
    exact v_reti C hA dX5_sheet_13 rfl (⟨by first | (simp only [shF, shT, shOk, vS, vL, bI, c3, not_false_eq_true, not_true_eq_false, and_self, and_true, true_and, and_false, false_and, ↓reduceIte]; done) | (simp only [shF, shT, shOk, vS, vL, bI, c3, not_false_eq_true, not_true_eq_false, and_self, and_true, true_and, and_false, false_and, ↓reduceIte]; rfl) | (simp [shF, shT, shOk, vS, vL, bI, c3]; done) | rfl, by first | (simp only [shF, shT, shOk, vS, vL, bI, c3, not_false_eq_true, not_true_eq_false, and_self, and_true, true_and, and_false, false_and, ↓reduceIte]; done) | (simp only [shF, shT, shOk, vS, vL, bI, c3, not_false_eq_true, not_true_eq_false, and_self, and_true, true_and, and_false, false_and, ↓reduceIte]; rfl) | (simp [shF, shT, shOk, vS, vL, bI, c3]; done) | rfl⟩)
set_option maxHeartbeats 4000000 in
set_option maxRecDepth 100000 in
theorem m_X5_lose {l : Launch} {D : va_G} {cI cB cS : ClassId} (b : Nat → Nat) (k g : Nat) (hs sl : Int32) (n_fa : Int32) (n_tr : Int32) (n_mi : Int32) (n_ju : Int32) (n_co : Int32) (n_cr : Int32) (n_at : Int32) (n_rm : Int32) (n_rj : Int32) (n_rc : Int32) (n_nw : Int32) (n_ov : Int32) (n_rl : Int32) (n_rd : Int32) (n_so : Nat → Int32) (n_sl : Nat → Int32) (n_ce : Nat → Int32) (q : Int32) (hk : k < 4) (hg : g ≤ 60) (hq : vS q → q = nI k) (hso : n_so k = soF hs sl) (hsn : n_sl k = nI g) (hlv : ¬ hs = 0 → ¬ sl = -9) : Mi l yX5_lose cX5_lose 3 (some .int) 2 42 D cI cB cS [.ref (b 0), .int q] [oN b n_fa n_tr n_mi n_ju n_co n_cr n_at n_rm n_rj n_rc n_nw n_ov n_rl n_rd, ia (b 2) cI 4 n_so, ia (b 3) cI 4 n_sl, ia (b 4) cI 240 n_ce] (fun r w => r = loF q hs ∧ w = [oN b n_fa n_tr n_mi n_ju n_co n_cr n_at n_rm n_rj n_rc n_nw n_ov n_rl n_rd, ia (b 2) cI 4 (if vS q then upd n_so k (-9) else n_so), ia (b 3) cI 4 n_sl, ia (b 4) cI 240 n_ce]) := by
  refine Mi.of (by decide) (Nat.le_of_ble_eq_true rfl) ?_
  intro zp ze zs zm zb zt zc zz zA hA C hnm
  refine v_lv0 [(0, .ref (b 0)), (1, .int q)] rfl ?_
  refine v_iload_n C dX5_lose_0 1 rfl ?_
  refine v_callSi C l_X5_87 (m_X5_isSheet q) (by decide) dX5_lose_1 [] rfl rfl (rest := []) rfl (Nat.le_of_ble_eq_true rfl) (by decide) (fun r1 h2 => ?_)
  subst h2
  by_cases c3 : vSb q = true
  · refine v_eqi 1 (bI_t c3) ?_
    have eq := hq c3
    subst eq
    refine v_if_ne C 9 dX5_lose_4 (by decide) (fun _ => ?_) (fun h => absurd h (by decide))
    refine v_aload_n C dX5_lose_9 0 rfl ?_
    refine v_get C f_X5_9 dX5_lose_10 0 rfl rfl ?_
    refine v_iload_n C dX5_lose_13 1 rfl ?_
    refine v_ialdN C dX5_lose_14 1 rfl k rfl (by omega) (by decide) ?_
    refine v_eqi (soF hs sl) (hso) ?_
    refine v_bipush C (-9) dX5_lose_15 (by decide) ?_
    refine v_icmp_ne C 24 dX5_lose_17 (by decide) (fun c4 => ?_) (fun c4 => ?_)
    · have zh5 : ¬ hs = 0 := fun q => c4 ((so_9 hlv).mpr q)
      refine v_iconst C 1 dX5_lose_24 (by decide) ?_
      refine v_istore_n C [(2, .int 1), (0, .ref (b 0)), (1, .int (nI k))] dX5_lose_25 (by decide) rfl ?_
      refine v_aload_n C dX5_lose_26 1 rfl ?_
      refine v_get C f_X5_9 dX5_lose_27 0 rfl rfl ?_
      refine v_iload_n C dX5_lose_30 2 rfl ?_
      refine v_bipush C (-9) dX5_lose_31 (by decide) ?_
      refine v_iastN C [oN b n_fa n_tr n_mi n_ju n_co n_cr n_at n_rm n_rj n_rc n_nw n_ov n_rl n_rd, ia (b 2) cI 4 (upd n_so k (-9)), ia (b 3) cI 4 n_sl, ia (b 4) cI 240 n_ce] dX5_lose_33 1 rfl k rfl (by omega) (by decide) rfl ?_
      refine v_iload_n C dX5_lose_34 0 rfl ?_
      exact v_reti C hA dX5_lose_35 rfl (⟨by first | (simp only [loF, vS, bI, c3, c4, zh5, not_false_eq_true, not_true_eq_false, and_self, and_true, true_and, and_false, false_and, ↓reduceIte]; done) | (simp only [loF, vS, bI, c3, c4, zh5, not_false_eq_true, not_true_eq_false, and_self, and_true, true_and, and_false, false_and, ↓reduceIte]; rfl) | (simp [loF, vS, bI, c3, c4, zh5]; done) | rfl, by first | (simp only [loF, vS, bI, c3, c4, zh5, not_false_eq_true, not_true_eq_false, and_self, and_true, true_and, and_false, false_and, ↓reduceIte]; done) | (simp only [loF, vS, bI, c3, c4, zh5, not_false_eq_true, not_true_eq_false, and_self, and_true, true_and, and_false, false_and, ↓reduceIte]; rfl) | (simp [loF, vS, bI, c3, c4, zh5]; done) | rfl⟩)
    · have zh6 : hs = 0 := (so_9 hlv).mp c4
      refine v_iconst C 0 dX5_lose_20 (by decide) ?_
      refine v_goto C 25 dX5_lose_21 (by decide) ?_
      refine v_istore_n C [(2, .int 0), (0, .ref (b 0)), (1, .int (nI k))] dX5_lose_25 (by decide) rfl ?_
      refine v_aload_n C dX5_lose_26 1 rfl ?_
      refine v_get C f_X5_9 dX5_lose_27 0 rfl rfl ?_
      refine v_iload_n C dX5_lose_30 2 rfl ?_
      refine v_bipush C (-9) dX5_lose_31 (by decide) ?_
      refine v_iastN C [oN b n_fa n_tr n_mi n_ju n_co n_cr n_at n_rm n_rj n_rc n_nw n_ov n_rl n_rd, ia (b 2) cI 4 (upd n_so k (-9)), ia (b 3) cI 4 n_sl, ia (b 4) cI 240 n_ce] dX5_lose_33 1 rfl k rfl (by omega) (by decide) rfl ?_
      refine v_iload_n C dX5_lose_34 0 rfl ?_
      exact v_reti C hA dX5_lose_35 rfl (⟨by first | (simp only [loF, vS, bI, c3, c4, zh6, not_false_eq_true, not_true_eq_false, and_self, and_true, true_and, and_false, false_and, ↓reduceIte]; done) | (simp only [loF, vS, bI, c3, c4, zh6, not_false_eq_true, not_true_eq_false, and_self, and_true, true_and, and_false, false_and, ↓reduceIte]; rfl) | (simp [loF, vS, bI, c3, c4, zh6]; done) | rfl, by first | (simp only [loF, vS, bI, c3, c4, zh6, not_false_eq_true, not_true_eq_false, and_self, and_true, true_and, and_false, false_and, ↓reduceIte]; done) | (simp only [loF, vS, bI, c3, c4, zh6, not_false_eq_true, not_true_eq_false, and_self, and_true, true_and, and_false, false_and, ↓reduceIte]; rfl) | (simp [loF, vS, bI, c3, c4, zh6]; done) | rfl⟩)
  · refine v_eqi 0 (bI_f c3) ?_
    refine v_if_ne C 9 dX5_lose_4 (by decide) (fun h => absurd h (by decide)) (fun _ => ?_)
    refine v_iconst C (-1) dX5_lose_7 (by decide) ?_
    exact v_reti C hA dX5_lose_8 rfl (⟨by first | (simp only [loF, vS, bI, c3, not_false_eq_true, not_true_eq_false, and_self, and_true, true_and, and_false, false_and, ↓reduceIte]; done) | (simp only [loF, vS, bI, c3, not_false_eq_true, not_true_eq_false, and_self, and_true, true_and, and_false, false_and, ↓reduceIte]; rfl) | (simp [loF, vS, bI, c3]; done) | rfl, by first | (simp only [loF, vS, bI, c3, not_false_eq_true, not_true_eq_false, and_self, and_true, true_and, and_false, false_and, ↓reduceIte]; done) | (simp only [loF, vS, bI, c3, not_false_eq_true, not_true_eq_false, and_self, and_true, true_and, and_false, false_and, ↓reduceIte]; rfl) | (simp [loF, vS, bI, c3]; done) | rfl⟩)
set_option maxHeartbeats 4000000 in
set_option maxRecDepth 100000 in
theorem m_X5_put {l : Launch} {D : va_G} {cI cB cS : ClassId} (b : Nat → Nat) (k g : Nat) (hs sl : Int32) (n_fa : Int32) (n_tr : Int32) (n_mi : Int32) (n_ju : Int32) (n_co : Int32) (n_cr : Int32) (n_at : Int32) (n_rm : Int32) (n_rj : Int32) (n_rc : Int32) (n_nw : Int32) (n_ov : Int32) (n_rl : Int32) (n_rd : Int32) (n_so : Nat → Int32) (n_sl : Nat → Int32) (n_ce : Nat → Int32) (q : Int32) (i : Int32) (v : Int32) (hk : k < 4) (hg : g ≤ 60) (hq : vS q → q = nI k) (hso : n_so k = soF hs sl) (hsn : n_sl k = nI g) (hlv : ¬ hs = 0 → ¬ sl = -9) : Mi l yX5_put cX5_put 4 (some .int) 2 42 D cI cB cS [.ref (b 0), .int q, .int i, .int v] [oN b n_fa n_tr n_mi n_ju n_co n_cr n_at n_rm n_rj n_rc n_nw n_ov n_rl n_rd, ia (b 2) cI 4 n_so, ia (b 3) cI 4 n_sl, ia (b 4) cI 240 n_ce] (fun r w => r = puF q hs g i ∧ w = [oN b (puT q hs g i) n_tr n_mi n_ju n_co n_cr n_at n_rm n_rj n_rc n_nw n_ov n_rl n_rd, ia (b 2) cI 4 n_so, ia (b 3) cI 4 n_sl, ia (b 4) cI 240 (if puOk q hs g i then upd n_ce (60 * k + zN i) (cutF sl v) else n_ce)]) := by
  refine Mi.of (by decide) (Nat.le_of_ble_eq_true rfl) ?_
  intro zp ze zs zm zb zt zc zz zA hA C hnm
  refine v_lv0 [(0, .ref (b 0)), (1, .int q), (2, .int i), (3, .int v)] rfl ?_
  refine v_aload_n C dX5_put_0 0 rfl ?_
  refine v_iconst C 0 dX5_put_1 (by decide) ?_
  refine v_put C p_X5_68 [oN b 0 n_tr n_mi n_ju n_co n_cr n_at n_rm n_rj n_rc n_nw n_ov n_rl n_rd, ia (b 2) cI 4 n_so, ia (b 3) cI 4 n_sl, ia (b 4) cI 240 n_ce] dX5_put_2 0 rfl rfl rfl (Nat.le_of_ble_eq_true rfl) rfl ?_
  refine v_iload_n C dX5_put_5 1 rfl ?_
  refine v_callSi C l_X5_87 (m_X5_isSheet q) (by decide) dX5_put_6 [] rfl rfl (rest := []) rfl (Nat.le_of_ble_eq_true rfl) (by decide) (fun r1 h2 => ?_)
  subst h2
  by_cases c3 : vSb q = true
  · refine v_eqi 1 (bI_t c3) ?_
    have eq := hq c3
    subst eq
    refine v_if_ne C 14 dX5_put_9 (by decide) (fun _ => ?_) (fun h => absurd h (by decide))
    refine v_aload_n C dX5_put_14 0 rfl ?_
    refine v_get C f_X5_9 dX5_put_15 0 rfl rfl ?_
    refine v_iload_n C dX5_put_18 1 rfl ?_
    refine v_ialdN C dX5_put_19 1 rfl k rfl (by omega) (by decide) ?_
    refine v_eqi (soF hs sl) (hso) ?_
    refine v_bipush C (-9) dX5_put_20 (by decide) ?_
    refine v_icmp_ne C 31 dX5_put_22 (by decide) (fun c4 => ?_) (fun c4 => ?_)
    · have zh5 : ¬ hs = 0 := fun q => c4 ((so_9 hlv).mpr q)
      refine v_iload_n C dX5_put_31 2 rfl ?_
      refine v_iconst C 0 dX5_put_32 (by decide) ?_
      refine v_aload_n C dX5_put_33 0 rfl ?_
      refine v_get C f_X5_13 dX5_put_34 0 rfl rfl ?_
      refine v_iload_n C dX5_put_37 1 rfl ?_
      refine v_ialdN C dX5_put_38 2 rfl k rfl (by omega) (by decide) ?_
      refine v_eqi (nI g) (hsn) ?_
      refine v_iconst C 1 dX5_put_39 (by decide) ?_
      refine v_isub C dX5_put_40 ?_
      refine v_callSi C l_X5_74 (m_X5_within i 0 ((nI g) - 1)) (by decide) dX5_put_41 [] rfl rfl (rest := []) rfl (Nat.le_of_ble_eq_true rfl) (by decide) (fun r6 h7 => ?_)
      subst h7
      by_cases c8 : wib i (0 : Int32) ((nI g) - 1) = true
      · refine v_eqi 1 (bI_t c8) ?_
        rw [wib_g hg] at c8
        obtain ⟨iN, hiN, rfl⟩ := ix_of' (by omega) c8
        have ziN : (nI iN).toNatClampNeg = iN := nI_clamp (by omega)
        refine v_if_ne C 53 dX5_put_44 (by decide) (fun _ => ?_) (fun h => absurd h (by decide))
        refine v_aload_n C dX5_put_53 0 rfl ?_
        refine v_get C f_X5_16 dX5_put_54 0 rfl rfl ?_
        refine v_bipush C 60 dX5_put_57 (by decide) ?_
        refine v_iload_n C dX5_put_59 1 rfl ?_
        refine v_imul C dX5_put_60 ?_
        refine v_eqi (nI (60 * k)) (pk_mul 60 k) ?_
        refine v_iload_n C dX5_put_61 2 rfl ?_
        refine v_iadd C dX5_put_62 ?_
        refine v_eqi (nI (60 * k + iN)) (nI_add _ _) ?_
        refine v_aload_n C dX5_put_63 0 rfl ?_
        refine v_get C f_X5_9 dX5_put_64 0 rfl rfl ?_
        refine v_iload_n C dX5_put_67 1 rfl ?_
        refine v_ialdN C dX5_put_68 1 rfl k rfl (by omega) (by decide) ?_
        refine v_eqi (sl) (by rw [hso, soF, if_neg zh5]) ?_
        refine v_if_ne C 77 dX5_put_69 (by decide) (fun c9 => ?_) (fun c9 => ?_)
        · refine v_aload_n C dX5_put_77 0 rfl ?_
          refine v_get C f_X5_9 dX5_put_78 0 rfl rfl ?_
          refine v_iload_n C dX5_put_81 1 rfl ?_
          refine v_ialdN C dX5_put_82 1 rfl k rfl (by omega) (by decide) ?_
          refine v_eqi (sl) (by rw [hso, soF, if_neg zh5]) ?_
          refine v_iconst C 1 dX5_put_83 (by decide) ?_
          refine v_icmp_ne C 92 dX5_put_84 (by decide) (fun c10 => ?_) (fun c10 => ?_)
          · refine v_iload_n C dX5_put_92 3 rfl ?_
            refine v_iastN C [oN b 0 n_tr n_mi n_ju n_co n_cr n_at n_rm n_rj n_rc n_nw n_ov n_rl n_rd, ia (b 2) cI 4 n_so, ia (b 3) cI 4 n_sl, ia (b 4) cI 240 (upd n_ce (60 * k + iN) v)] dX5_put_93 3 rfl (60 * k + iN) rfl (by omega) (by decide) rfl ?_
            refine v_iconst C 1 dX5_put_94 (by decide) ?_
            exact v_reti C hA dX5_put_95 rfl (⟨by first | (simp only [puF, puT, puOk, cutF, vS, bI, ziN, c3, c4, zh5, c8, c9, c10, not_false_eq_true, not_true_eq_false, and_self, and_true, true_and, and_false, false_and, ↓reduceIte]; done) | (simp only [puF, puT, puOk, cutF, vS, bI, ziN, c3, c4, zh5, c8, c9, c10, not_false_eq_true, not_true_eq_false, and_self, and_true, true_and, and_false, false_and, ↓reduceIte]; rfl) | (simp [puF, puT, puOk, cutF, vS, bI, ziN, c3, c4, zh5, c8, c9, c10]; done) | rfl, by first | (simp only [puF, puT, puOk, cutF, vS, bI, ziN, c3, c4, zh5, c8, c9, c10, not_false_eq_true, not_true_eq_false, and_self, and_true, true_and, and_false, false_and, ↓reduceIte]; done) | (simp only [puF, puT, puOk, cutF, vS, bI, ziN, c3, c4, zh5, c8, c9, c10, not_false_eq_true, not_true_eq_false, and_self, and_true, true_and, and_false, false_and, ↓reduceIte]; rfl) | (simp [puF, puT, puOk, cutF, vS, bI, ziN, c3, c4, zh5, c8, c9, c10]; done) | rfl⟩)
          · refine v_iload_n C dX5_put_87 3 rfl ?_
            refine v_i2s C dX5_put_88 ?_
            refine v_goto C 93 dX5_put_89 (by decide) ?_
            refine v_iastN C [oN b 0 n_tr n_mi n_ju n_co n_cr n_at n_rm n_rj n_rc n_nw n_ov n_rl n_rd, ia (b 2) cI 4 n_so, ia (b 3) cI 4 n_sl, ia (b 4) cI 240 (upd n_ce (60 * k + iN) v.toInt16.toInt32)] dX5_put_93 3 rfl (60 * k + iN) rfl (by omega) (by decide) rfl ?_
            refine v_iconst C 1 dX5_put_94 (by decide) ?_
            exact v_reti C hA dX5_put_95 rfl (⟨by first | (simp only [puF, puT, puOk, cutF, vS, bI, ziN, c3, c4, zh5, c8, c9, c10, not_false_eq_true, not_true_eq_false, and_self, and_true, true_and, and_false, false_and, ↓reduceIte]; done) | (simp only [puF, puT, puOk, cutF, vS, bI, ziN, c3, c4, zh5, c8, c9, c10, not_false_eq_true, not_true_eq_false, and_self, and_true, true_and, and_false, false_and, ↓reduceIte]; rfl) | (simp [puF, puT, puOk, cutF, vS, bI, ziN, c3, c4, zh5, c8, c9, c10]; done) | rfl, by first | (simp only [puF, puT, puOk, cutF, vS, bI, ziN, c3, c4, zh5, c8, c9, c10, not_false_eq_true, not_true_eq_false, and_self, and_true, true_and, and_false, false_and, ↓reduceIte]; done) | (simp only [puF, puT, puOk, cutF, vS, bI, ziN, c3, c4, zh5, c8, c9, c10, not_false_eq_true, not_true_eq_false, and_self, and_true, true_and, and_false, false_and, ↓reduceIte]; rfl) | (simp [puF, puT, puOk, cutF, vS, bI, ziN, c3, c4, zh5, c8, c9, c10]; done) | rfl⟩)
        · refine v_iload_n C dX5_put_72 3 rfl ?_
          refine v_i2b C dX5_put_73 ?_
          refine v_goto C 93 dX5_put_74 (by decide) ?_
          refine v_iastN C [oN b 0 n_tr n_mi n_ju n_co n_cr n_at n_rm n_rj n_rc n_nw n_ov n_rl n_rd, ia (b 2) cI 4 n_so, ia (b 3) cI 4 n_sl, ia (b 4) cI 240 (upd n_ce (60 * k + iN) v.toInt8.toInt32)] dX5_put_93 3 rfl (60 * k + iN) rfl (by omega) (by decide) rfl ?_
          refine v_iconst C 1 dX5_put_94 (by decide) ?_
          exact v_reti C hA dX5_put_95 rfl (⟨by first | (simp only [puF, puT, puOk, cutF, vS, bI, ziN, c3, c4, zh5, c8, c9, not_false_eq_true, not_true_eq_false, and_self, and_true, true_and, and_false, false_and, ↓reduceIte]; done) | (simp only [puF, puT, puOk, cutF, vS, bI, ziN, c3, c4, zh5, c8, c9, not_false_eq_true, not_true_eq_false, and_self, and_true, true_and, and_false, false_and, ↓reduceIte]; rfl) | (simp [puF, puT, puOk, cutF, vS, bI, ziN, c3, c4, zh5, c8, c9]; done) | rfl, by first | (simp only [puF, puT, puOk, cutF, vS, bI, ziN, c3, c4, zh5, c8, c9, not_false_eq_true, not_true_eq_false, and_self, and_true, true_and, and_false, false_and, ↓reduceIte]; done) | (simp only [puF, puT, puOk, cutF, vS, bI, ziN, c3, c4, zh5, c8, c9, not_false_eq_true, not_true_eq_false, and_self, and_true, true_and, and_false, false_and, ↓reduceIte]; rfl) | (simp [puF, puT, puOk, cutF, vS, bI, ziN, c3, c4, zh5, c8, c9]; done) | rfl⟩)
      · refine v_eqi 0 (bI_f c8) ?_
        rw [wib_g hg] at c8
        refine v_if_ne C 53 dX5_put_44 (by decide) (fun h => absurd h (by decide)) (fun _ => ?_)
        refine v_aload_n C dX5_put_47 0 rfl ?_
        refine v_iconst C 3 dX5_put_48 (by decide) ?_
        refine v_callMi C l_X5_98 (m_X5_fails b 0 n_tr n_mi n_ju n_co n_cr n_at n_rm n_rj n_rc n_nw n_ov n_rl n_rd 3) (by decide) dX5_put_49 [0] [1, 2, 3] (wr := [ia (b 2) cI 4 n_so, ia (b 3) cI 4 n_sl, ia (b 4) cI 240 n_ce]) (by decide) rfl rfl (by decide) (by decide) 0 rfl rfl rfl (rest := []) rfl (Nat.le_of_ble_eq_true rfl) (by decide) (fun r13 w11 h12 => ?_)
        obtain ⟨rfl, rfl⟩ := h12
        refine v_ws0 [ia (b 2) cI 4 n_so, ia (b 3) cI 4 n_sl, ia (b 4) cI 240 n_ce, oN b (3 : Int32) n_tr n_mi n_ju n_co n_cr n_at n_rm n_rj n_rc n_nw n_ov n_rl n_rd] rfl ?_
        refine v_perm (ws' := [oN b (3 : Int32) n_tr n_mi n_ju n_co n_cr n_at n_rm n_rj n_rc n_nw n_ov n_rl n_rd, ia (b 2) cI 4 n_so, ia (b 3) cI 4 n_sl, ia (b 4) cI 240 n_ce]) [3, 0, 1, 2] (by decide) rfl ?_
        exact v_reti C hA dX5_put_52 rfl (⟨by first | (simp only [puF, puT, puOk, cutF, vS, bI, c3, c4, zh5, c8, not_false_eq_true, not_true_eq_false, and_self, and_true, true_and, and_false, false_and, ↓reduceIte]; done) | (simp only [puF, puT, puOk, cutF, vS, bI, c3, c4, zh5, c8, not_false_eq_true, not_true_eq_false, and_self, and_true, true_and, and_false, false_and, ↓reduceIte]; rfl) | (simp [puF, puT, puOk, cutF, vS, bI, c3, c4, zh5, c8]; done) | rfl, by first | (simp only [puF, puT, puOk, cutF, vS, bI, c3, c4, zh5, c8, not_false_eq_true, not_true_eq_false, and_self, and_true, true_and, and_false, false_and, ↓reduceIte]; done) | (simp only [puF, puT, puOk, cutF, vS, bI, c3, c4, zh5, c8, not_false_eq_true, not_true_eq_false, and_self, and_true, true_and, and_false, false_and, ↓reduceIte]; rfl) | (simp [puF, puT, puOk, cutF, vS, bI, c3, c4, zh5, c8]; done) | rfl⟩)
    · have zh14 : hs = 0 := (so_9 hlv).mp c4
      refine v_aload_n C dX5_put_25 0 rfl ?_
      refine v_iconst C 1 dX5_put_26 (by decide) ?_
      refine v_callMi C l_X5_98 (m_X5_fails b 0 n_tr n_mi n_ju n_co n_cr n_at n_rm n_rj n_rc n_nw n_ov n_rl n_rd 1) (by decide) dX5_put_27 [0] [1, 2, 3] (wr := [ia (b 2) cI 4 n_so, ia (b 3) cI 4 n_sl, ia (b 4) cI 240 n_ce]) (by decide) rfl rfl (by decide) (by decide) 0 rfl rfl rfl (rest := []) rfl (Nat.le_of_ble_eq_true rfl) (by decide) (fun r17 w15 h16 => ?_)
      obtain ⟨rfl, rfl⟩ := h16
      refine v_ws0 [ia (b 2) cI 4 n_so, ia (b 3) cI 4 n_sl, ia (b 4) cI 240 n_ce, oN b (1 : Int32) n_tr n_mi n_ju n_co n_cr n_at n_rm n_rj n_rc n_nw n_ov n_rl n_rd] rfl ?_
      refine v_perm (ws' := [oN b (1 : Int32) n_tr n_mi n_ju n_co n_cr n_at n_rm n_rj n_rc n_nw n_ov n_rl n_rd, ia (b 2) cI 4 n_so, ia (b 3) cI 4 n_sl, ia (b 4) cI 240 n_ce]) [3, 0, 1, 2] (by decide) rfl ?_
      exact v_reti C hA dX5_put_30 rfl (⟨by first | (simp only [puF, puT, puOk, cutF, vS, bI, c3, c4, zh14, not_false_eq_true, not_true_eq_false, and_self, and_true, true_and, and_false, false_and, ↓reduceIte]; done) | (simp only [puF, puT, puOk, cutF, vS, bI, c3, c4, zh14, not_false_eq_true, not_true_eq_false, and_self, and_true, true_and, and_false, false_and, ↓reduceIte]; rfl) | (simp [puF, puT, puOk, cutF, vS, bI, c3, c4, zh14]; done) | rfl, by first | (simp only [puF, puT, puOk, cutF, vS, bI, c3, c4, zh14, not_false_eq_true, not_true_eq_false, and_self, and_true, true_and, and_false, false_and, ↓reduceIte]; done) | (simp only [puF, puT, puOk, cutF, vS, bI, c3, c4, zh14, not_false_eq_true, not_true_eq_false, and_self, and_true, true_and, and_false, false_and, ↓reduceIte]; rfl) | (simp [puF, puT, puOk, cutF, vS, bI, c3, c4, zh14]; done) | rfl⟩)
  · refine v_eqi 0 (bI_f c3) ?_
    refine v_if_ne C 14 dX5_put_9 (by decide) (fun h => absurd h (by decide)) (fun _ => ?_)
    refine v_iconst C (-1) dX5_put_12 (by decide) ?_
    exact v_reti C hA dX5_put_13 rfl (⟨by first | (simp only [puF, puT, puOk, cutF, vS, bI, c3, not_false_eq_true, not_true_eq_false, and_self, and_true, true_and, and_false, false_and, ↓reduceIte]; done) | (simp only [puF, puT, puOk, cutF, vS, bI, c3, not_false_eq_true, not_true_eq_false, and_self, and_true, true_and, and_false, false_and, ↓reduceIte]; rfl) | (simp [puF, puT, puOk, cutF, vS, bI, c3]; done) | rfl, by first | (simp only [puF, puT, puOk, cutF, vS, bI, c3, not_false_eq_true, not_true_eq_false, and_self, and_true, true_and, and_false, false_and, ↓reduceIte]; done) | (simp only [puF, puT, puOk, cutF, vS, bI, c3, not_false_eq_true, not_true_eq_false, and_self, and_true, true_and, and_false, false_and, ↓reduceIte]; rfl) | (simp [puF, puT, puOk, cutF, vS, bI, c3]; done) | rfl⟩)
set_option maxHeartbeats 4000000 in
set_option maxRecDepth 100000 in
theorem m_X5_cell {l : Launch} {D : va_G} {cI cB cS : ClassId} (b : Nat → Nat) (k g : Nat) (hs sl : Int32) (sc : Nat → Int32) (n_fa : Int32) (n_tr : Int32) (n_mi : Int32) (n_ju : Int32) (n_co : Int32) (n_cr : Int32) (n_at : Int32) (n_rm : Int32) (n_rj : Int32) (n_rc : Int32) (n_nw : Int32) (n_ov : Int32) (n_rl : Int32) (n_rd : Int32) (n_so : Nat → Int32) (n_sl : Nat → Int32) (n_ce : Nat → Int32) (q : Int32) (i : Int32) (x : Int32) (hk : k < 4) (hg : g ≤ 60) (hq : vS q → q = nI k) (hso : n_so k = soF hs sl) (hsn : n_sl k = nI g) (hlv : ¬ hs = 0 → ¬ sl = -9) (hce : ∀ i, i < 60 → n_ce (60 * k + i) = sc i) : Ml l yX5_cell cX5_cell 4 2 42 D cI cB cS [.ref (b 0), .int q, .int i, .int x] [oN b n_fa n_tr n_mi n_ju n_co n_cr n_at n_rm n_rj n_rc n_nw n_ov n_rl n_rd, ia (b 2) cI 4 n_so, ia (b 3) cI 4 n_sl, ia (b 4) cI 240 n_ce] (fun r w => r = ceF q hs sl g sc i x ∧ w = [oN b (ceT q hs sl g i x) n_tr n_mi n_ju n_co n_cr n_at n_rm n_rj n_rc n_nw n_ov n_rl n_rd, ia (b 2) cI 4 n_so, ia (b 3) cI 4 n_sl, ia (b 4) cI 240 n_ce]) := by
  refine Ml.of (by decide) (Nat.le_of_ble_eq_true rfl) ?_
  intro zp ze zs zm zb zt zc zz zA hA C hnm
  refine v_lv0 [(0, .ref (b 0)), (1, .int q), (2, .int i), (3, .int x)] rfl ?_
  refine v_aload_n C dX5_cell_0 0 rfl ?_
  refine v_iconst C 0 dX5_cell_1 (by decide) ?_
  refine v_put C p_X5_68 [oN b 0 n_tr n_mi n_ju n_co n_cr n_at n_rm n_rj n_rc n_nw n_ov n_rl n_rd, ia (b 2) cI 4 n_so, ia (b 3) cI 4 n_sl, ia (b 4) cI 240 n_ce] dX5_cell_2 0 rfl rfl rfl (Nat.le_of_ble_eq_true rfl) rfl ?_
  refine v_iload_n C dX5_cell_5 1 rfl ?_
  refine v_callSi C l_X5_87 (m_X5_isSheet q) (by decide) dX5_cell_6 [] rfl rfl (rest := []) rfl (Nat.le_of_ble_eq_true rfl) (by decide) (fun r1 h2 => ?_)
  subst h2
  by_cases c3 : vSb q = true
  · refine v_eqi 1 (bI_t c3) ?_
    have eq := hq c3
    subst eq
    refine v_if_eq C 19 dX5_cell_9 (by decide) (fun h => absurd h (by decide)) (fun _ => ?_)
    refine v_iload_n C dX5_cell_12 3 rfl ?_
    refine v_callSi C l_X5_91 (m_X5_isSort x) (by decide) dX5_cell_13 [] rfl rfl (rest := []) rfl (Nat.le_of_ble_eq_true rfl) (by decide) (fun r4 h5 => ?_)
    subst h5
    by_cases c6 : vLb x = true
    · refine v_eqi 1 (bI_t c6) ?_
      refine v_if_ne C 23 dX5_cell_16 (by decide) (fun _ => ?_) (fun h => absurd h (by decide))
      refine v_aload_n C dX5_cell_23 0 rfl ?_
      refine v_get C f_X5_9 dX5_cell_24 0 rfl rfl ?_
      refine v_iload_n C dX5_cell_27 1 rfl ?_
      refine v_ialdN C dX5_cell_28 1 rfl k rfl (by omega) (by decide) ?_
      refine v_eqi (soF hs sl) (hso) ?_
      refine v_bipush C (-9) dX5_cell_29 (by decide) ?_
      refine v_icmp_eq C 50 dX5_cell_31 (by decide) (fun c7 => ?_) (fun c7 => ?_)
      · have zh8 : hs = 0 := (so_9 hlv).mp c7
        refine v_aload_n C dX5_cell_50 0 rfl ?_
        refine v_get C f_X5_9 dX5_cell_51 0 rfl rfl ?_
        refine v_iload_n C dX5_cell_54 1 rfl ?_
        refine v_ialdN C dX5_cell_55 1 rfl k rfl (by omega) (by decide) ?_
        refine v_eqi (soF hs sl) (hso) ?_
        refine v_bipush C (-9) dX5_cell_56 (by decide) ?_
        refine v_icmp_ne C 67 dX5_cell_58 (by decide) (fun c9 => ?_) (fun c9 => ?_)
        · exact absurd c7 c9
        · have zh10 : hs = 0 := (so_9 hlv).mp c9
          refine v_aload_n C dX5_cell_61 0 rfl ?_
          refine v_iconst C 1 dX5_cell_62 (by decide) ?_
          refine v_callMl C l_X5_230 (m_X5_lost b 0 n_tr n_mi n_ju n_co n_cr n_at n_rm n_rj n_rc n_nw n_ov n_rl n_rd 1) (by decide) dX5_cell_63 [0] [1, 2, 3] (wr := [ia (b 2) cI 4 n_so, ia (b 3) cI 4 n_sl, ia (b 4) cI 240 n_ce]) (by decide) rfl rfl (by decide) (by decide) 0 rfl rfl rfl (rest := []) rfl (Nat.le_of_ble_eq_true rfl) (by decide) (fun r13 w11 h12 => ?_)
          obtain ⟨rfl, rfl⟩ := h12
          refine v_ws0 [ia (b 2) cI 4 n_so, ia (b 3) cI 4 n_sl, ia (b 4) cI 240 n_ce, oN b (1 : Int32) n_tr n_mi n_ju n_co n_cr n_at n_rm n_rj n_rc n_nw n_ov n_rl n_rd] rfl ?_
          refine v_perm (ws' := [oN b (1 : Int32) n_tr n_mi n_ju n_co n_cr n_at n_rm n_rj n_rc n_nw n_ov n_rl n_rd, ia (b 2) cI 4 n_so, ia (b 3) cI 4 n_sl, ia (b 4) cI 240 n_ce]) [3, 0, 1, 2] (by decide) rfl ?_
          exact v_retl C hA dX5_cell_66 (⟨by first | (simp only [ceF, ceT, folF, vS, vL, bI, c3, c6, c7, zh8, c9, zh10, not_false_eq_true, not_true_eq_false, and_self, and_true, true_and, and_false, false_and, ↓reduceIte]; done) | (simp only [ceF, ceT, folF, vS, vL, bI, c3, c6, c7, zh8, c9, zh10, not_false_eq_true, not_true_eq_false, and_self, and_true, true_and, and_false, false_and, ↓reduceIte]; rfl) | (simp [ceF, ceT, folF, vS, vL, bI, c3, c6, c7, zh8, c9, zh10]; done) | rfl, by first | (simp only [ceF, ceT, folF, vS, vL, bI, c3, c6, c7, zh8, c9, zh10, not_false_eq_true, not_true_eq_false, and_self, and_true, true_and, and_false, false_and, ↓reduceIte]; done) | (simp only [ceF, ceT, folF, vS, vL, bI, c3, c6, c7, zh8, c9, zh10, not_false_eq_true, not_true_eq_false, and_self, and_true, true_and, and_false, false_and, ↓reduceIte]; rfl) | (simp [ceF, ceT, folF, vS, vL, bI, c3, c6, c7, zh8, c9, zh10]; done) | rfl⟩)
      · have zh14 : ¬ hs = 0 := fun q => c7 ((so_9 hlv).mpr q)
        refine v_aload_n C dX5_cell_34 0 rfl ?_
        refine v_get C f_X5_9 dX5_cell_35 0 rfl rfl ?_
        refine v_iload_n C dX5_cell_38 1 rfl ?_
        refine v_ialdN C dX5_cell_39 1 rfl k rfl (by omega) (by decide) ?_
        refine v_eqi (sl) (by rw [hso, soF, if_neg zh14]) ?_
        refine v_iload_n C dX5_cell_40 3 rfl ?_
        refine v_icmp_eq C 50 dX5_cell_41 (by decide) (fun c15 => ?_) (fun c15 => ?_)
        · refine v_aload_n C dX5_cell_50 0 rfl ?_
          refine v_get C f_X5_9 dX5_cell_51 0 rfl rfl ?_
          refine v_iload_n C dX5_cell_54 1 rfl ?_
          refine v_ialdN C dX5_cell_55 1 rfl k rfl (by omega) (by decide) ?_
          refine v_eqi (sl) (by rw [hso, soF, if_neg zh14]) ?_
          refine v_bipush C (-9) dX5_cell_56 (by decide) ?_
          refine v_icmp_ne C 67 dX5_cell_58 (by decide) (fun c16 => ?_) (fun c16 => ?_)
          · refine v_iload_n C dX5_cell_67 2 rfl ?_
            refine v_iconst C 0 dX5_cell_68 (by decide) ?_
            refine v_aload_n C dX5_cell_69 0 rfl ?_
            refine v_get C f_X5_13 dX5_cell_70 0 rfl rfl ?_
            refine v_iload_n C dX5_cell_73 1 rfl ?_
            refine v_ialdN C dX5_cell_74 2 rfl k rfl (by omega) (by decide) ?_
            refine v_eqi (nI g) (hsn) ?_
            refine v_iconst C 1 dX5_cell_75 (by decide) ?_
            refine v_isub C dX5_cell_76 ?_
            refine v_callSi C l_X5_74 (m_X5_within i 0 ((nI g) - 1)) (by decide) dX5_cell_77 [] rfl rfl (rest := []) rfl (Nat.le_of_ble_eq_true rfl) (by decide) (fun r17 h18 => ?_)
            subst h18
            by_cases c19 : wib i (0 : Int32) ((nI g) - 1) = true
            · refine v_eqi 1 (bI_t c19) ?_
              rw [wib_g hg] at c19
              obtain ⟨iN, hiN, rfl⟩ := ix_of' (by omega) c19
              have ziN : (nI iN).toNatClampNeg = iN := nI_clamp (by omega)
              refine v_if_ne C 89 dX5_cell_80 (by decide) (fun _ => ?_) (fun h => absurd h (by decide))
              refine v_aload_n C dX5_cell_89 0 rfl ?_
              refine v_get C f_X5_16 dX5_cell_90 0 rfl rfl ?_
              refine v_bipush C 60 dX5_cell_93 (by decide) ?_
              refine v_iload_n C dX5_cell_95 1 rfl ?_
              refine v_imul C dX5_cell_96 ?_
              refine v_eqi (nI (60 * k)) (pk_mul 60 k) ?_
              refine v_iload_n C dX5_cell_97 2 rfl ?_
              refine v_iadd C dX5_cell_98 ?_
              refine v_eqi (nI (60 * k + iN)) (nI_add _ _) ?_
              refine v_ialdN C dX5_cell_99 3 rfl (60 * k + iN) rfl (by omega) (by decide) ?_
              refine v_eqi (sc iN) (hce iN (by omega)) ?_
              refine v_i2l C dX5_cell_100 ?_
              exact v_retl C hA dX5_cell_101 (⟨by first | (simp only [ceF, ceT, folF, vS, vL, bI, ziN, c3, c6, c7, zh14, c15, c16, c19, not_false_eq_true, not_true_eq_false, and_self, and_true, true_and, and_false, false_and, ↓reduceIte]; done) | (simp only [ceF, ceT, folF, vS, vL, bI, ziN, c3, c6, c7, zh14, c15, c16, c19, not_false_eq_true, not_true_eq_false, and_self, and_true, true_and, and_false, false_and, ↓reduceIte]; rfl) | (simp [ceF, ceT, folF, vS, vL, bI, ziN, c3, c6, c7, zh14, c15, c16, c19]; done) | rfl, by first | (simp only [ceF, ceT, folF, vS, vL, bI, ziN, c3, c6, c7, zh14, c15, c16, c19, not_false_eq_true, not_true_eq_false, and_self, and_true, true_and, and_false, false_and, ↓reduceIte]; done) | (simp only [ceF, ceT, folF, vS, vL, bI, ziN, c3, c6, c7, zh14, c15, c16, c19, not_false_eq_true, not_true_eq_false, and_self, and_true, true_and, and_false, false_and, ↓reduceIte]; rfl) | (simp [ceF, ceT, folF, vS, vL, bI, ziN, c3, c6, c7, zh14, c15, c16, c19]; done) | rfl⟩)
            · refine v_eqi 0 (bI_f c19) ?_
              rw [wib_g hg] at c19
              refine v_if_ne C 89 dX5_cell_80 (by decide) (fun h => absurd h (by decide)) (fun _ => ?_)
              refine v_aload_n C dX5_cell_83 0 rfl ?_
              refine v_iconst C 3 dX5_cell_84 (by decide) ?_
              refine v_callMl C l_X5_230 (m_X5_lost b 0 n_tr n_mi n_ju n_co n_cr n_at n_rm n_rj n_rc n_nw n_ov n_rl n_rd 3) (by decide) dX5_cell_85 [0] [1, 2, 3] (wr := [ia (b 2) cI 4 n_so, ia (b 3) cI 4 n_sl, ia (b 4) cI 240 n_ce]) (by decide) rfl rfl (by decide) (by decide) 0 rfl rfl rfl (rest := []) rfl (Nat.le_of_ble_eq_true rfl) (by decide) (fun r22 w20 h21 => ?_)
              obtain ⟨rfl, rfl⟩ := h21
              refine v_ws0 [ia (b 2) cI 4 n_so, ia (b 3) cI 4 n_sl, ia (b 4) cI 240 n_ce, oN b (3 : Int32) n_tr n_mi n_ju n_co n_cr n_at n_rm n_rj n_rc n_nw n_ov n_rl n_rd] rfl ?_
              refine v_perm (ws' := [oN b (3 : Int32) n_tr n_mi n_ju n_co n_cr n_at n_rm n_rj n_rc n_nw n_ov n_rl n_rd, ia (b 2) cI 4 n_so, ia (b 3) cI 4 n_sl, ia (b 4) cI 240 n_ce]) [3, 0, 1, 2] (by decide) rfl ?_
              exact v_retl C hA dX5_cell_88 (⟨by first | (simp only [ceF, ceT, folF, vS, vL, bI, c3, c6, c7, zh14, c15, c16, c19, not_false_eq_true, not_true_eq_false, and_self, and_true, true_and, and_false, false_and, ↓reduceIte]; done) | (simp only [ceF, ceT, folF, vS, vL, bI, c3, c6, c7, zh14, c15, c16, c19, not_false_eq_true, not_true_eq_false, and_self, and_true, true_and, and_false, false_and, ↓reduceIte]; rfl) | (simp [ceF, ceT, folF, vS, vL, bI, c3, c6, c7, zh14, c15, c16, c19]; done) | rfl, by first | (simp only [ceF, ceT, folF, vS, vL, bI, c3, c6, c7, zh14, c15, c16, c19, not_false_eq_true, not_true_eq_false, and_self, and_true, true_and, and_false, false_and, ↓reduceIte]; done) | (simp only [ceF, ceT, folF, vS, vL, bI, c3, c6, c7, zh14, c15, c16, c19, not_false_eq_true, not_true_eq_false, and_self, and_true, true_and, and_false, false_and, ↓reduceIte]; rfl) | (simp [ceF, ceT, folF, vS, vL, bI, c3, c6, c7, zh14, c15, c16, c19]; done) | rfl⟩)
          · exact absurd c16 (hlv zh14)
        · refine v_aload_n C dX5_cell_44 0 rfl ?_
          refine v_iconst C 2 dX5_cell_45 (by decide) ?_
          refine v_callMl C l_X5_230 (m_X5_lost b 0 n_tr n_mi n_ju n_co n_cr n_at n_rm n_rj n_rc n_nw n_ov n_rl n_rd 2) (by decide) dX5_cell_46 [0] [1, 2, 3] (wr := [ia (b 2) cI 4 n_so, ia (b 3) cI 4 n_sl, ia (b 4) cI 240 n_ce]) (by decide) rfl rfl (by decide) (by decide) 0 rfl rfl rfl (rest := []) rfl (Nat.le_of_ble_eq_true rfl) (by decide) (fun r25 w23 h24 => ?_)
          obtain ⟨rfl, rfl⟩ := h24
          refine v_ws0 [ia (b 2) cI 4 n_so, ia (b 3) cI 4 n_sl, ia (b 4) cI 240 n_ce, oN b (2 : Int32) n_tr n_mi n_ju n_co n_cr n_at n_rm n_rj n_rc n_nw n_ov n_rl n_rd] rfl ?_
          refine v_perm (ws' := [oN b (2 : Int32) n_tr n_mi n_ju n_co n_cr n_at n_rm n_rj n_rc n_nw n_ov n_rl n_rd, ia (b 2) cI 4 n_so, ia (b 3) cI 4 n_sl, ia (b 4) cI 240 n_ce]) [3, 0, 1, 2] (by decide) rfl ?_
          exact v_retl C hA dX5_cell_49 (⟨by first | (simp only [ceF, ceT, folF, vS, vL, bI, c3, c6, c7, zh14, c15, not_false_eq_true, not_true_eq_false, and_self, and_true, true_and, and_false, false_and, ↓reduceIte]; done) | (simp only [ceF, ceT, folF, vS, vL, bI, c3, c6, c7, zh14, c15, not_false_eq_true, not_true_eq_false, and_self, and_true, true_and, and_false, false_and, ↓reduceIte]; rfl) | (simp [ceF, ceT, folF, vS, vL, bI, c3, c6, c7, zh14, c15]; done) | rfl, by first | (simp only [ceF, ceT, folF, vS, vL, bI, c3, c6, c7, zh14, c15, not_false_eq_true, not_true_eq_false, and_self, and_true, true_and, and_false, false_and, ↓reduceIte]; done) | (simp only [ceF, ceT, folF, vS, vL, bI, c3, c6, c7, zh14, c15, not_false_eq_true, not_true_eq_false, and_self, and_true, true_and, and_false, false_and, ↓reduceIte]; rfl) | (simp [ceF, ceT, folF, vS, vL, bI, c3, c6, c7, zh14, c15]; done) | rfl⟩)
    · refine v_eqi 0 (bI_f c6) ?_
      refine v_if_ne C 23 dX5_cell_16 (by decide) (fun h => absurd h (by decide)) (fun _ => ?_)
      refine v_ldc2 C k_X5_72 dX5_cell_19 ?_
      exact v_retl C hA dX5_cell_22 (⟨by first | (simp only [ceF, ceT, folF, vS, vL, bI, c3, c6, not_false_eq_true, not_true_eq_false, and_self, and_true, true_and, and_false, false_and, ↓reduceIte]; done) | (simp only [ceF, ceT, folF, vS, vL, bI, c3, c6, not_false_eq_true, not_true_eq_false, and_self, and_true, true_and, and_false, false_and, ↓reduceIte]; rfl) | (simp [ceF, ceT, folF, vS, vL, bI, c3, c6]; done) | rfl, by first | (simp only [ceF, ceT, folF, vS, vL, bI, c3, c6, not_false_eq_true, not_true_eq_false, and_self, and_true, true_and, and_false, false_and, ↓reduceIte]; done) | (simp only [ceF, ceT, folF, vS, vL, bI, c3, c6, not_false_eq_true, not_true_eq_false, and_self, and_true, true_and, and_false, false_and, ↓reduceIte]; rfl) | (simp [ceF, ceT, folF, vS, vL, bI, c3, c6]; done) | rfl⟩)
  · refine v_eqi 0 (bI_f c3) ?_
    refine v_if_eq C 19 dX5_cell_9 (by decide) (fun _ => ?_) (fun h => absurd h (by decide))
    refine v_ldc2 C k_X5_72 dX5_cell_19 ?_
    exact v_retl C hA dX5_cell_22 (⟨by first | (simp only [ceF, ceT, folF, vS, vL, bI, c3, not_false_eq_true, not_true_eq_false, and_self, and_true, true_and, and_false, false_and, ↓reduceIte]; done) | (simp only [ceF, ceT, folF, vS, vL, bI, c3, not_false_eq_true, not_true_eq_false, and_self, and_true, true_and, and_false, false_and, ↓reduceIte]; rfl) | (simp [ceF, ceT, folF, vS, vL, bI, c3]; done) | rfl, by first | (simp only [ceF, ceT, folF, vS, vL, bI, c3, not_false_eq_true, not_true_eq_false, and_self, and_true, true_and, and_false, false_and, ↓reduceIte]; done) | (simp only [ceF, ceT, folF, vS, vL, bI, c3, not_false_eq_true, not_true_eq_false, and_self, and_true, true_and, and_false, false_and, ↓reduceIte]; rfl) | (simp [ceF, ceT, folF, vS, vL, bI, c3]; done) | rfl⟩)
