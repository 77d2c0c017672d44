/-- LAWS by which all readings are so: how many, the least, the one of the fewest deeds, among the first -/
def cdS (ok : Nat → Bool) : Nat → Nat × Int32 × Int32
  | 0 => (0, -9, -9)
  | l + 1 => if ok l = true then ((cdS ok l).1 + 1, (if (cdS ok l).2.1 = -9 then nI l else (cdS ok l).2.1), (if (cdS ok l).2.2 = -9 ∨ ¬ bcF (cdS ok l).2.2 ≤ bcF (nI l) then nI l else (cdS ok l).2.2)) else cdS ok l
def cdF (nc : Nat) (ok : Nat → Bool) (x : Int32) : Int32 := if ¬ x < 0 ∧ x ≤ 2 then (if nI nc ≤ 0 then -3 else if x = 0 then nI (cdS ok 64).1 else if x = 1 then (cdS ok 64).2.1 else (cdS ok 64).2.2) else -2
theorem upd_twice (f : Nat → Int32) (i : Nat) (x y : Int32) : upd (upd f i x) i y = upd f i y := by
  funext j
  unfold upd
  by_cases h : j = i <;> simp [h]
theorem clr_mk (p : Nat → Bool) (i : Nat) : clr (mk p i) i = mk p i := by
  have h := mk_bit p i i
  simp at h
  unfold clr
  rw [h]
  simp
theorem wb_mk {p : Nat → Bool} {i : Nat} (hi : i < 6) {is : Int32} (h : (¬ is = 0) ↔ p i = true) : wbN (mk p i) i is = mk p (i + 1) := by
  unfold wbN
  by_cases e : is = 0
  · rw [if_pos e, clr_mk]
    exact mk_skip (by
      cases hp : p i
      · rfl
      · exact absurd e (h.mpr hp))
  · rw [if_neg e]
    exact set1_mk hi (h.mp e)
def kiF (nj : Nat) (ok : Nat → Nat → Bool) (j : Int32) : Int32 := if ¬ j < 0 ∧ ¬ nI nj ≤ j then nI (mk (ok (zN j)) 3) else -1
def teF (nj nc : Nat) (ok : Nat → Bool) : Int32 := if nI nc ≤ 0 then -3 else nI (mk ok nj)
/-- halving -/
def hvN : Nat → Nat × Nat → Nat × Nat
  | 0, q => q
  | f + 1, q => if 1 < q.2 ∧ q.1 % 2 = 0 then hvN f (q.1 / 2, q.2 / 2) else q
theorem hvN_stop {f : Nat} {q : Nat × Nat} (h : ¬ (1 < q.2 ∧ q.1 % 2 = 0)) : hvN f q = q := by
  cases f with
  | zero => rfl
  | succ f => rw [hvN, if_neg h]
def odF (nj nc : Nat) (gu : Nat → Nat → Bool) (c x : Int32) : Int64 := if (¬ c < 0 ∧ ¬ nI nc ≤ c) ∧ ¬ x < 0 ∧ x ≤ 1 then (if x = 0 then lN (hvN 6 (ct (gu (zN c)) (2 ^ nj), 2 ^ nj)).1 else lN (hvN 6 (ct (gu (zN c)) (2 ^ nj), 2 ^ nj)).2) else -9223372036854775808
theorem half_fu {l f : Nat} (h1 : 1 < l) (h : l < 2 ^ f) : l / 2 < 2 ^ (f - 1) := by
  cases f with
  | zero => simp at h; omega
  | succ f => rw [Nat.pow_succ] at h; simp; omega
theorem half_pos {l f : Nat} (h1 : 1 < l) (h : l < 2 ^ f) : 0 < f := by
  cases f with
  | zero => simp at h; omega
  | succ f => omega
theorem hv_step {u l f : Nat} (hf : 0 < f) (h1 : 1 < l) (h2 : u % 2 = 0) : hvN f (u, l) = hvN (f - 1) (u / 2, l / 2) := by
  cases f with
  | zero => omega
  | succ f => rw [hvN, if_pos ⟨h1, h2⟩]; rfl
set_option maxHeartbeats 4000000 in
set_option maxRecDepth 100000 in
theorem m_X4_codes {l : Launch} {D : va_G} {cI cB cS : ClassId} (a : Nat → Nat) (nj nc wl s0 st nr : Nat) (dn rn : Nat → Nat) (tr : Int32) (fa : Int32) (bo : Nat → Int32) (ln : Int32) (lw : Int32) (ss : Int32) (sx : Int32) (un : Int32) (en : Int32) (se : Int32) (tk : Nat → Int32) (od : Nat → Int32) (ve : Nat → Int32) (vd : Nat → Int32) (si : Int32) (kd : Nat → Int32) (ag : Nat → Int32) (de : Nat → Int32) (ta : Nat → Int32) (we : Nat → Int32) (rC : Nat → Int32) (rH : Nat → Int32) (x : Int32) (hnj : nj ≤ 5) (hnc : nc ≤ 5) (hlw : wl < 64) (hs0 : s0 < 2 ^ nj) (hst2 : st < 2 ^ nj) (hp5 : 2 ^ nj ≤ 32) (hnr : nr ≤ 8) (hde : ∀ c, c < nc → de c = nI (dn c) ∧ dn c < 6) (hrc : ∀ q, q < nr → rC q = nI (rn q) ∧ rn q < nc) : Mi l yX4_codes cX4_codes 6 (some .int) 5 119 D cI cB cS [.ref (a 0), .int x] [oC a tr fa, ia (a 5) cI 5 bo, oT a ln lw ss sx un en se, ia (a 31) cI 5 tk, ia (a 32) cI 5 od, ia (a 33) cI 5 ve, ia (a 34) cI 6 vd, oK a si (nI nj) (nI nc) (nI wl) (nI s0) (nI st) (nI nr), ia (a 20) cI 5 kd, ia (a 21) cI 5 ag, ia (a 22) cI 5 de, ia (a 23) cI 5 ta, ia (a 24) cI 5 we, ia (a 25) cI 8 rC, ia (a 26) cI 8 rH] (fun r w => ∃ (ln' : Int32) (lw' : Int32) (ss' : Int32) (sx' : Int32) (un' : Int32) (en' : Int32) (se' : Int32) (tk' : Nat → Int32) (od' : Nat → Int32) (ve' : Nat → Int32) (vd' : Nat → Int32) (bo' : Nat → Int32), r = cdF nc (fun yx => arB (sitS nj kd ag st yx dn ta we si s0 (fun p => p) nc).1 rn rH nr) x ∧ w = [oC a tr fa, ia (a 5) cI 5 bo', oT a ln' lw' ss' sx' un' en' se', ia (a 31) cI 5 tk', ia (a 32) cI 5 od', ia (a 33) cI 5 ve', ia (a 34) cI 6 vd', oK a si (nI nj) (nI nc) (nI wl) (nI s0) (nI st) (nI nr), ia (a 20) cI 5 kd, ia (a 21) cI 5 ag, ia (a 22) cI 5 de, ia (a 23) cI 5 ta, ia (a 24) cI 5 we, ia (a 25) cI 8 rC, ia (a 26) cI 8 rH]) := by
  refine Mi.of (by decide) (Nat.le_of_ble_eq_true rfl) ?_
  intro zp ze zs zm zb zt zc zz zA hA C hnm
  refine v_lv0 [(0, .ref (a 0)), (1, .int x)] rfl ?_
  refine v_iload_n C dX4_codes_0 1 rfl ?_
  refine v_if_lt C 9 dX4_codes_1 (by decide) (fun c1 => ?_) (fun c1 => ?_)
  · refine v_bipush C (-2) dX4_codes_9 (by decide) ?_
    exact v_reti C hA dX4_codes_11 rfl (⟨_, _, _, _, _, _, _, _, _, _, _, _, by first | (simp only [cdF, bI, c1, not_false_eq_true, not_true_eq_false, and_self, and_true, true_and, and_false, false_and, ↓reduceIte]; done) | (simp only [cdF, bI, c1, not_false_eq_true, not_true_eq_false, and_self, and_true, true_and, and_false, false_and, ↓reduceIte]; rfl) | (simp [cdF, bI, c1]; done) | rfl, by first | (simp only [cdF, bI, c1, not_false_eq_true, not_true_eq_false, and_self, and_true, true_and, and_false, false_and, ↓reduceIte]; done) | (simp only [cdF, bI, c1, not_false_eq_true, not_true_eq_false, and_self, and_true, true_and, and_false, false_and, ↓reduceIte]; rfl) | (simp [cdF, bI, c1]; done) | rfl⟩)
  · refine v_iload_n C dX4_codes_4 1 rfl ?_
    refine v_iconst C 2 dX4_codes_5 (by decide) ?_
    refine v_icmp_le C 12 dX4_codes_6 (by decide) (fun c2 => ?_) (fun c2 => ?_)
    · refine v_aload_n C dX4_codes_12 0 rfl ?_
      refine v_get C f_X4_27 dX4_codes_13 0 rfl rfl ?_
      refine v_callRi C l_X4_106 (m_X0_stands a si (nI nj) (nI nc) (nI wl) (nI s0) (nI st) (nI nr)) (by decide) dX4_codes_16 [7] rfl 7 rfl rfl rfl (rest := []) rfl (Nat.le_of_ble_eq_true rfl) (by decide) (fun r3 h4 => ?_)
      subst h4
      by_cases c5 : ¬ (nI nc) ≤ 0
      · refine v_eqi 1 (bI_t c5) ?_
        refine v_if_ne C 25 dX4_codes_19 (by decide) (fun _ => ?_) (fun h => absurd h (by decide))
        refine v_aload_n C dX4_codes_25 0 rfl ?_
        refine v_callMv C l_X4_148 (m_X4_prepareByNumbers a nc tr fa si (nI nj) (nI wl) (nI s0) (nI st) (nI nr) kd ln lw ss sx un en se tk od (by assumption)) (by decide) dX4_codes_26 [0, 7, 8, 2, 3, 4] [1, 5, 6, 9, 10, 11, 12, 13, 14] (wr := [ia (a 5) cI 5 bo, ia (a 33) cI 5 ve, ia (a 34) cI 6 vd, ia (a 21) cI 5 ag, ia (a 22) cI 5 de, ia (a 23) cI 5 ta, ia (a 24) cI 5 we, ia (a 25) cI 8 rC, ia (a 26) cI 8 rH]) (by decide) rfl rfl (by decide) (by decide) 0 rfl rfl rfl (rest := []) rfl (Nat.le_of_ble_eq_true rfl) (by decide) (fun w6 h7 => ?_)
        subst h7
        refine v_ws0 [ia (a 5) cI 5 bo, ia (a 33) cI 5 ve, ia (a 34) cI 6 vd, ia (a 21) cI 5 ag, ia (a 22) cI 5 de, ia (a 23) cI 5 ta, ia (a 24) cI 5 we, ia (a 25) cI 8 rC, ia (a 26) cI 8 rH, oC a tr fa, oK a si (nI nj) (nI nc) (nI wl) (nI s0) (nI st) (nI nr), ia (a 20) cI 5 kd, oT a (nI nc) (nI wl) (nI s0) (nI st) (nI s0) en se, ia (a 31) cI 5 kd, ia (a 32) cI 5 (tbF nI od nc)] rfl ?_
        refine v_iconst C 0 dX4_codes_29 (by decide) ?_
        refine v_istore_n C [(2, .int 0), (0, .ref (a 0)), (1, .int x)] dX4_codes_30 (by decide) rfl ?_
        refine v_bipush C (-9) dX4_codes_31 (by decide) ?_
        refine v_istore_n C [(3, .int (-9)), (2, .int 0), (0, .ref (a 0)), (1, .int x)] dX4_codes_33 (by decide) rfl ?_
        refine v_bipush C (-9) dX4_codes_34 (by decide) ?_
        refine v_istore C [(4, .int (-9)), (3, .int (-9)), (2, .int 0), (0, .ref (a 0)), (1, .int x)] dX4_codes_36 (by decide) rfl ?_
        refine v_iconst C 0 dX4_codes_38 (by decide) ?_
        refine v_istore C [(5, .int 0), (4, .int (-9)), (3, .int (-9)), (2, .int 0), (0, .ref (a 0)), (1, .int x)] dX4_codes_39 (by decide) rfl ?_
        refine v_perm (ws' := [oC a tr fa, ia (a 5) cI 5 bo, oT a (nI nc) (nI wl) (nI s0) (nI st) (nI s0) en se, ia (a 31) cI 5 kd, ia (a 32) cI 5 (tbF nI od nc), ia (a 33) cI 5 ve, ia (a 34) cI 6 vd, oK a si (nI nj) (nI nc) (nI wl) (nI s0) (nI st) (nI nr), ia (a 20) cI 5 kd, ia (a 21) cI 5 ag, ia (a 22) cI 5 de, ia (a 23) cI 5 ta, ia (a 24) cI 5 we, ia (a 25) cI 8 rC, ia (a 26) cI 8 rH]) [9, 0, 12, 13, 14, 1, 2, 10, 11, 3, 4, 5, 6, 7, 8] (by decide) rfl ?_
        have lp : ∀ (n_10 : Nat) (y : Nat) (cn : Nat) (le : Int32) (fe : Int32) (lw1 : Int32) (ve1 : Nat → Int32) (vd1 : Nat → Int32) (un1 : Int32) (en1 : Int32) (se1 : Int32), 64 - y < n_10 → (y ≤ 64) → (cdS (fun yx => arB (sitS nj kd ag st yx dn ta we si s0 (fun p => p) nc).1 rn rH nr) y = (cn, le, fe)) → V zp l ze (rmOf 5 119) zs zm [.ref (a 0), .int x].toArray zb zt zc D (IM zA zs) (QMi zb [.ref (a 0), .int x].toArray zs D cI cB cS [oC a tr fa, ia (a 5) cI 5 bo, oT a ln lw ss sx un en se, ia (a 31) cI 5 tk, ia (a 32) cI 5 od, ia (a 33) cI 5 ve, ia (a 34) cI 6 vd, oK a si (nI nj) (nI nc) (nI wl) (nI s0) (nI st) (nI nr), ia (a 20) cI 5 kd, ia (a 21) cI 5 ag, ia (a 22) cI 5 de, ia (a 23) cI 5 ta, ia (a 24) cI 5 we, ia (a 25) cI 8 rC, ia (a 26) cI 8 rH] zz (fun r w => ∃ (ln' : Int32) (lw' : Int32) (ss' : Int32) (sx' : Int32) (un' : Int32) (en' : Int32) (se' : Int32) (tk' : Nat → Int32) (od' : Nat → Int32) (ve' : Nat → Int32) (vd' : Nat → Int32) (bo' : Nat → Int32), r = cdF nc (fun yx => arB (sitS nj kd ag st yx dn ta we si s0 (fun p => p) nc).1 rn rH nr) x ∧ w = [oC a tr fa, ia (a 5) cI 5 bo', oT a ln' lw' ss' sx' un' en' se', ia (a 31) cI 5 tk', ia (a 32) cI 5 od', ia (a 33) cI 5 ve', ia (a 34) cI 6 vd', oK a si (nI nj) (nI nc) (nI wl) (nI s0) (nI st) (nI nr), ia (a 20) cI 5 kd, ia (a 21) cI 5 ag, ia (a 22) cI 5 de, ia (a 23) cI 5 ta, ia (a 24) cI 5 we, ia (a 25) cI 8 rC, ia (a 26) cI 8 rH])) 0 0 6 [oC a tr fa, ia (a 5) cI 5 bo, oT a (nI nc) lw1 (nI s0) (nI st) un1 en1 se1, ia (a 31) cI 5 kd, ia (a 32) cI 5 (tbF nI od nc), ia (a 33) cI 5 ve1, ia (a 34) cI 6 vd1, oK a si (nI nj) (nI nc) (nI wl) (nI s0) (nI st) (nI nr), ia (a 20) cI 5 kd, ia (a 21) cI 5 ag, ia (a 22) cI 5 de, ia (a 23) cI 5 ta, ia (a 24) cI 5 we, ia (a 25) cI 8 rC, ia (a 26) cI 8 rH] [(5, .int (nI y)), (4, .int fe), (3, .int le), (2, .int (nI cn)), (0, .ref (a 0)), (1, .int x)] 41 [] := by
          intro n_10
          induction n_10 with
          | zero => intro y cn le fe lw1 ve1 vd1 un1 en1 se1 b9; exact absurd b9 (by omega)
          | succ n_10 ihn_10 =>
            intro y cn le fe lw1 ve1 vd1 un1 en1 se1 b9 hy hcd
            refine v_iload C dX4_codes_41 0 rfl ?_
            refine v_bipush C 64 dX4_codes_43 (by decide) ?_
            refine v_icmp_ge C 112 dX4_codes_45 (by decide) (fun c11 => ?_) (fun c11 => ?_)
            · have nc11 : 64 ≤ y := nI_leD c11 (by omega)
              have hle : y = 64 := by omega
              rw [hle] at hcd
              refine v_iload_n C dX4_codes_112 5 rfl ?_
              refine v_if_ne C 118 dX4_codes_113 (by decide) (fun c12 => ?_) (fun c12 => ?_)
              · refine v_iload_n C dX4_codes_118 5 rfl ?_
                refine v_iconst C 1 dX4_codes_119 (by decide) ?_
                refine v_icmp_ne C 127 dX4_codes_120 (by decide) (fun c13 => ?_) (fun c13 => ?_)
                · refine v_iload C dX4_codes_127 1 rfl ?_
                  exact v_reti C hA dX4_codes_129 rfl (⟨_, _, _, _, _, _, _, _, _, _, _, _, by first | (simp only [cdF, hcd, c1, c2, c5, c11, nc11, Nat.not_lt.mpr nc11, c12, c13, not_false_eq_true, not_true_eq_false, and_self, and_true, true_and, and_false, false_and, ↓reduceIte]; done) | (simp [cdF, hcd, c1, c2, c5, c11, nc11, Nat.not_lt.mpr nc11, c12, c13]; done), rfl⟩)
                · refine v_iload_n C dX4_codes_123 2 rfl ?_
                  refine v_goto C 129 dX4_codes_124 (by decide) ?_
                  exact v_reti C hA dX4_codes_129 rfl (⟨_, _, _, _, _, _, _, _, _, _, _, _, by first | (simp only [cdF, hcd, c1, c2, c5, c11, nc11, Nat.not_lt.mpr nc11, c12, c13, not_false_eq_true, not_true_eq_false, and_self, and_true, true_and, and_false, false_and, ↓reduceIte]; done) | (simp [cdF, hcd, c1, c2, c5, c11, nc11, Nat.not_lt.mpr nc11, c12, c13]; done), rfl⟩)
              · refine v_iload_n C dX4_codes_116 3 rfl ?_
                exact v_reti C hA dX4_codes_117 rfl (⟨_, _, _, _, _, _, _, _, _, _, _, _, by first | (simp only [cdF, hcd, c1, c2, c5, c11, nc11, Nat.not_lt.mpr nc11, c12, not_false_eq_true, not_true_eq_false, and_self, and_true, true_and, and_false, false_and, ↓reduceIte]; done) | (simp [cdF, hcd, c1, c2, c5, c11, nc11, Nat.not_lt.mpr nc11, c12]; done), rfl⟩)
            · have nc11 : y < 64 := nI_ltD c11 (by omega)
              refine v_aload_n C dX4_codes_48 4 rfl ?_
              refine v_get C f_X4_36 dX4_codes_49 0 rfl rfl ?_
              refine v_iload C dX4_codes_52 0 rfl ?_
              refine v_put C p_X4_169 [oC a tr fa, ia (a 5) cI 5 bo, oT a (nI nc) (nI y) (nI s0) (nI st) un1 en1 se1, ia (a 31) cI 5 kd, ia (a 32) cI 5 (tbF nI od nc), ia (a 33) cI 5 ve1, ia (a 34) cI 6 vd1, oK a si (nI nj) (nI nc) (nI wl) (nI s0) (nI st) (nI nr), ia (a 20) cI 5 kd, ia (a 21) cI 5 ag, ia (a 22) cI 5 de, ia (a 23) cI 5 ta, ia (a 24) cI 5 we, ia (a 25) cI 8 rC, ia (a 26) cI 8 rH] dX4_codes_54 2 rfl rfl rfl (Nat.le_of_ble_eq_true rfl) rfl ?_
              refine v_aload_n C dX4_codes_57 4 rfl ?_
              refine v_callMi C l_X4_170 (m_X4_isAsRead a s0 st y nj nc nc nr (fun p => p) dn rn tr fa un1 en1 se1 kd (tbF nI od nc) ve1 vd1 si (nI nc) (nI wl) (nI s0) (nI st) ag de ta we rC rH (by assumption) (by omega) (by omega) (by assumption) (by first | assumption | exact set1_lt nj (by omega) s0 hs0 j (by omega)) hnc (by assumption) (fun p hp => ⟨tbF_in hp, hp⟩) (by assumption) (by assumption) (by assumption)) (by decide) dX4_codes_58 [0, 2, 3, 4, 5, 6, 7, 9, 10, 11, 12, 13, 14] [1, 8] (wr := [ia (a 5) cI 5 bo, ia (a 20) cI 5 kd]) (by decide) rfl rfl (by decide) (by decide) 0 rfl rfl rfl (rest := []) rfl (Nat.le_of_ble_eq_true rfl) (by decide) (fun r16 w14 h15 => ?_)
              obtain ⟨rfl, rfl⟩ := h15
              refine v_ws0 [ia (a 5) cI 5 bo, ia (a 20) cI 5 kd, oC a tr fa, oT a (nI nc) (nI y) (nI s0) (nI st) (nI (sitS nj kd ag st y dn ta we si s0 (fun p => p) nc).2.2.1) ((sitS nj kd ag st y dn ta we si s0 (fun p => p) nc).2.2.2.1) ((sitS nj kd ag st y dn ta we si s0 (fun p => p) nc).2.2.2.2.1), ia (a 31) cI 5 kd, ia (a 32) cI 5 (tbF nI od nc), ia (a 33) cI 5 ((sitS nj kd ag st y dn ta we si s0 (fun p => p) nc).1), ia (a 34) cI 6 ((sitS nj kd ag st y dn ta we si s0 (fun p => p) nc).2.1), oK a si (nI nj) (nI nc) (nI wl) (nI s0) (nI st) (nI nr), ia (a 21) cI 5 ag, ia (a 22) cI 5 de, ia (a 23) cI 5 ta, ia (a 24) cI 5 we, ia (a 25) cI 8 rC, ia (a 26) cI 8 rH] rfl ?_
              by_cases c17 : arB (sitS nj kd ag st y dn ta we si s0 (fun p => p) nc).1 rn rH nr = true
              · refine v_eqi 1 (bI_t c17) ?_
                refine v_if_eq C 106 dX4_codes_61 (by decide) (fun h => absurd h (by decide)) (fun _ => ?_)
                refine v_iinc C (nI (cn + 1)) [(2, .int (nI (cn + 1))), (5, .int (nI y)), (4, .int fe), (3, .int le), (0, .ref (a 0)), (1, .int x)] 3 dX4_codes_64 rfl (nI_inc _) (by decide) rfl ?_
                refine v_iload_n C dX4_codes_67 3 rfl ?_
                refine v_bipush C (-9) dX4_codes_68 (by decide) ?_
                refine v_icmp_ne C 78 dX4_codes_70 (by decide) (fun c18 => ?_) (fun c18 => ?_)
                · refine v_iload_n C dX4_codes_78 3 rfl ?_
                  refine v_istore_n C [(3, .int le), (2, .int (nI (cn + 1))), (5, .int (nI y)), (4, .int fe), (0, .ref (a 0)), (1, .int x)] dX4_codes_79 (by decide) rfl ?_
                  refine v_iload C dX4_codes_80 3 rfl ?_
                  refine v_bipush C (-9) dX4_codes_82 (by decide) ?_
                  refine v_icmp_eq C 97 dX4_codes_84 (by decide) (fun c19 => ?_) (fun c19 => ?_)
                  · refine v_iload C dX4_codes_97 2 rfl ?_
                    refine v_goto C 104 dX4_codes_99 (by decide) ?_
                    refine v_istore C [(4, .int (nI y)), (3, .int le), (2, .int (nI (cn + 1))), (5, .int (nI y)), (0, .ref (a 0)), (1, .int x)] dX4_codes_104 (by decide) rfl ?_
                    refine v_iinc C (nI (y + 1)) [(5, .int (nI (y + 1))), (4, .int (nI y)), (3, .int le), (2, .int (nI (cn + 1))), (0, .ref (a 0)), (1, .int x)] 3 dX4_codes_106 rfl (nI_inc _) (by decide) rfl ?_
                    refine v_goto C 41 dX4_codes_109 (by decide) ?_
                    refine v_perm (ws' := [oC a tr fa, ia (a 5) cI 5 bo, oT a (nI nc) (nI y) (nI s0) (nI st) (nI (sitS nj kd ag st y dn ta we si s0 (fun p => p) nc).2.2.1) ((sitS nj kd ag st y dn ta we si s0 (fun p => p) nc).2.2.2.1) ((sitS nj kd ag st y dn ta we si s0 (fun p => p) nc).2.2.2.2.1), ia (a 31) cI 5 kd, ia (a 32) cI 5 (tbF nI od nc), ia (a 33) cI 5 ((sitS nj kd ag st y dn ta we si s0 (fun p => p) nc).1), ia (a 34) cI 6 ((sitS nj kd ag st y dn ta we si s0 (fun p => p) nc).2.1), oK a si (nI nj) (nI nc) (nI wl) (nI s0) (nI st) (nI nr), ia (a 20) cI 5 kd, ia (a 21) cI 5 ag, ia (a 22) cI 5 de, ia (a 23) cI 5 ta, ia (a 24) cI 5 we, ia (a 25) cI 8 rC, ia (a 26) cI 8 rH]) [2, 0, 3, 4, 5, 6, 7, 8, 1, 9, 10, 11, 12, 13, 14] (by decide) rfl ?_
                    exact ihn_10 (y + 1) (cn + 1) le (nI y) (nI y) ((sitS nj kd ag st y dn ta we si s0 (fun p => p) nc).1) ((sitS nj kd ag st y dn ta we si s0 (fun p => p) nc).2.1) (nI (sitS nj kd ag st y dn ta we si s0 (fun p => p) nc).2.2.1) ((sitS nj kd ag st y dn ta we si s0 (fun p => p) nc).2.2.2.1) ((sitS nj kd ag st y dn ta we si s0 (fun p => p) nc).2.2.2.2.1) (by omega) (by omega) (by rw [cdS, hcd]; simp [c17, c18, c19])
                  · refine v_iload C dX4_codes_87 2 rfl ?_
                    refine v_iload C dX4_codes_89 3 rfl ?_
                    refine v_callSi C l_X4_173 (m_X4_hasFewer (nI y) fe) (by decide) dX4_codes_91 [] rfl rfl (rest := []) rfl (Nat.le_of_ble_eq_true rfl) (by decide) (fun r20 h21 => ?_)
                    subst h21
                    by_cases c22 : ¬ bcF fe ≤ bcF (nI y)
                    · refine v_eqi 1 (bI_t c22) ?_
                      refine v_if_eq C 102 dX4_codes_94 (by decide) (fun h => absurd h (by decide)) (fun _ => ?_)
                      refine v_iload C dX4_codes_97 2 rfl ?_
                      refine v_goto C 104 dX4_codes_99 (by decide) ?_
                      refine v_istore C [(4, .int (nI y)), (3, .int le), (2, .int (nI (cn + 1))), (5, .int (nI y)), (0, .ref (a 0)), (1, .int x)] dX4_codes_104 (by decide) rfl ?_
                      refine v_iinc C (nI (y + 1)) [(5, .int (nI (y + 1))), (4, .int (nI y)), (3, .int le), (2, .int (nI (cn + 1))), (0, .ref (a 0)), (1, .int x)] 3 dX4_codes_106 rfl (nI_inc _) (by decide) rfl ?_
                      refine v_goto C 41 dX4_codes_109 (by decide) ?_
                      refine v_perm (ws' := [oC a tr fa, ia (a 5) cI 5 bo, oT a (nI nc) (nI y) (nI s0) (nI st) (nI (sitS nj kd ag st y dn ta we si s0 (fun p => p) nc).2.2.1) ((sitS nj kd ag st y dn ta we si s0 (fun p => p) nc).2.2.2.1) ((sitS nj kd ag st y dn ta we si s0 (fun p => p) nc).2.2.2.2.1), ia (a 31) cI 5 kd, ia (a 32) cI 5 (tbF nI od nc), ia (a 33) cI 5 ((sitS nj kd ag st y dn ta we si s0 (fun p => p) nc).1), ia (a 34) cI 6 ((sitS nj kd ag st y dn ta we si s0 (fun p => p) nc).2.1), oK a si (nI nj) (nI nc) (nI wl) (nI s0) (nI st) (nI nr), ia (a 20) cI 5 kd, ia (a 21) cI 5 ag, ia (a 22) cI 5 de, ia (a 23) cI 5 ta, ia (a 24) cI 5 we, ia (a 25) cI 8 rC, ia (a 26) cI 8 rH]) [2, 0, 3, 4, 5, 6, 7, 8, 1, 9, 10, 11, 12, 13, 14] (by decide) rfl ?_
                      exact ihn_10 (y + 1) (cn + 1) le (nI y) (nI y) ((sitS nj kd ag st y dn ta we si s0 (fun p => p) nc).1) ((sitS nj kd ag st y dn ta we si s0 (fun p => p) nc).2.1) (nI (sitS nj kd ag st y dn ta we si s0 (fun p => p) nc).2.2.1) ((sitS nj kd ag st y dn ta we si s0 (fun p => p) nc).2.2.2.1) ((sitS nj kd ag st y dn ta we si s0 (fun p => p) nc).2.2.2.2.1) (by omega) (by omega) (by rw [cdS, hcd]; simp [c17, c18, c19, c22])
                    · refine v_eqi 0 (bI_f c22) ?_
                      refine v_if_eq C 102 dX4_codes_94 (by decide) (fun _ => ?_) (fun h => absurd h (by decide))
                      refine v_iload C dX4_codes_102 3 rfl ?_
                      refine v_istore C [(4, .int fe), (3, .int le), (2, .int (nI (cn + 1))), (5, .int (nI y)), (0, .ref (a 0)), (1, .int x)] dX4_codes_104 (by decide) rfl ?_
                      refine v_iinc C (nI (y + 1)) [(5, .int (nI (y + 1))), (4, .int fe), (3, .int le), (2, .int (nI (cn + 1))), (0, .ref (a 0)), (1, .int x)] 3 dX4_codes_106 rfl (nI_inc _) (by decide) rfl ?_
                      refine v_goto C 41 dX4_codes_109 (by decide) ?_
                      refine v_perm (ws' := [oC a tr fa, ia (a 5) cI 5 bo, oT a (nI nc) (nI y) (nI s0) (nI st) (nI (sitS nj kd ag st y dn ta we si s0 (fun p => p) nc).2.2.1) ((sitS nj kd ag st y dn ta we si s0 (fun p => p) nc).2.2.2.1) ((sitS nj kd ag st y dn ta we si s0 (fun p => p) nc).2.2.2.2.1), ia (a 31) cI 5 kd, ia (a 32) cI 5 (tbF nI od nc), ia (a 33) cI 5 ((sitS nj kd ag st y dn ta we si s0 (fun p => p) nc).1), ia (a 34) cI 6 ((sitS nj kd ag st y dn ta we si s0 (fun p => p) nc).2.1), oK a si (nI nj) (nI nc) (nI wl) (nI s0) (nI st) (nI nr), ia (a 20) cI 5 kd, ia (a 21) cI 5 ag, ia (a 22) cI 5 de, ia (a 23) cI 5 ta, ia (a 24) cI 5 we, ia (a 25) cI 8 rC, ia (a 26) cI 8 rH]) [2, 0, 3, 4, 5, 6, 7, 8, 1, 9, 10, 11, 12, 13, 14] (by decide) rfl ?_
                      exact ihn_10 (y + 1) (cn + 1) le fe (nI y) ((sitS nj kd ag st y dn ta we si s0 (fun p => p) nc).1) ((sitS nj kd ag st y dn ta we si s0 (fun p => p) nc).2.1) (nI (sitS nj kd ag st y dn ta we si s0 (fun p => p) nc).2.2.1) ((sitS nj kd ag st y dn ta we si s0 (fun p => p) nc).2.2.2.1) ((sitS nj kd ag st y dn ta we si s0 (fun p => p) nc).2.2.2.2.1) (by omega) (by omega) (by rw [cdS, hcd]; simp [c17, c18, c19, c22])
                · refine v_iload C dX4_codes_73 1 rfl ?_
                  refine v_goto C 79 dX4_codes_75 (by decide) ?_
                  refine v_istore_n C [(3, .int (nI y)), (2, .int (nI (cn + 1))), (5, .int (nI y)), (4, .int fe), (0, .ref (a 0)), (1, .int x)] dX4_codes_79 (by decide) rfl ?_
                  refine v_iload C dX4_codes_80 3 rfl ?_
                  refine v_bipush C (-9) dX4_codes_82 (by decide) ?_
                  refine v_icmp_eq C 97 dX4_codes_84 (by decide) (fun c23 => ?_) (fun c23 => ?_)
                  · refine v_iload C dX4_codes_97 2 rfl ?_
                    refine v_goto C 104 dX4_codes_99 (by decide) ?_
                    refine v_istore C [(4, .int (nI y)), (3, .int (nI y)), (2, .int (nI (cn + 1))), (5, .int (nI y)), (0, .ref (a 0)), (1, .int x)] dX4_codes_104 (by decide) rfl ?_
                    refine v_iinc C (nI (y + 1)) [(5, .int (nI (y + 1))), (4, .int (nI y)), (3, .int (nI y)), (2, .int (nI (cn + 1))), (0, .ref (a 0)), (1, .int x)] 3 dX4_codes_106 rfl (nI_inc _) (by decide) rfl ?_
                    refine v_goto C 41 dX4_codes_109 (by decide) ?_
                    refine v_perm (ws' := [oC a tr fa, ia (a 5) cI 5 bo, oT a (nI nc) (nI y) (nI s0) (nI st) (nI (sitS nj kd ag st y dn ta we si s0 (fun p => p) nc).2.2.1) ((sitS nj kd ag st y dn ta we si s0 (fun p => p) nc).2.2.2.1) ((sitS nj kd ag st y dn ta we si s0 (fun p => p) nc).2.2.2.2.1), ia (a 31) cI 5 kd, ia (a 32) cI 5 (tbF nI od nc), ia (a 33) cI 5 ((sitS nj kd ag st y dn ta we si s0 (fun p => p) nc).1), ia (a 34) cI 6 ((sitS nj kd ag st y dn ta we si s0 (fun p => p) nc).2.1), oK a si (nI nj) (nI nc) (nI wl) (nI s0) (nI st) (nI nr), ia (a 20) cI 5 kd, ia (a 21) cI 5 ag, ia (a 22) cI 5 de, ia (a 23) cI 5 ta, ia (a 24) cI 5 we, ia (a 25) cI 8 rC, ia (a 26) cI 8 rH]) [2, 0, 3, 4, 5, 6, 7, 8, 1, 9, 10, 11, 12, 13, 14] (by decide) rfl ?_
                    exact ihn_10 (y + 1) (cn + 1) (nI y) (nI y) (nI y) ((sitS nj kd ag st y dn ta we si s0 (fun p => p) nc).1) ((sitS nj kd ag st y dn ta we si s0 (fun p => p) nc).2.1) (nI (sitS nj kd ag st y dn ta we si s0 (fun p => p) nc).2.2.1) ((sitS nj kd ag st y dn ta we si s0 (fun p => p) nc).2.2.2.1) ((sitS nj kd ag st y dn ta we si s0 (fun p => p) nc).2.2.2.2.1) (by omega) (by omega) (by rw [cdS, hcd]; simp [c17, c18, c23])
                  · refine v_iload C dX4_codes_87 2 rfl ?_
                    refine v_iload C dX4_codes_89 3 rfl ?_
                    refine v_callSi C l_X4_173 (m_X4_hasFewer (nI y) fe) (by decide) dX4_codes_91 [] rfl rfl (rest := []) rfl (Nat.le_of_ble_eq_true rfl) (by decide) (fun r24 h25 => ?_)
                    subst h25
                    by_cases c26 : ¬ bcF fe ≤ bcF (nI y)
                    · refine v_eqi 1 (bI_t c26) ?_
                      refine v_if_eq C 102 dX4_codes_94 (by decide) (fun h => absurd h (by decide)) (fun _ => ?_)
                      refine v_iload C dX4_codes_97 2 rfl ?_
                      refine v_goto C 104 dX4_codes_99 (by decide) ?_
                      refine v_istore C [(4, .int (nI y)), (3, .int (nI y)), (2, .int (nI (cn + 1))), (5, .int (nI y)), (0, .ref (a 0)), (1, .int x)] dX4_codes_104 (by decide) rfl ?_
                      refine v_iinc C (nI (y + 1)) [(5, .int (nI (y + 1))), (4, .int (nI y)), (3, .int (nI y)), (2, .int (nI (cn + 1))), (0, .ref (a 0)), (1, .int x)] 3 dX4_codes_106 rfl (nI_inc _) (by decide) rfl ?_
                      refine v_goto C 41 dX4_codes_109 (by decide) ?_
                      refine v_perm (ws' := [oC a tr fa, ia (a 5) cI 5 bo, oT a (nI nc) (nI y) (nI s0) (nI st) (nI (sitS nj kd ag st y dn ta we si s0 (fun p => p) nc).2.2.1) ((sitS nj kd ag st y dn ta we si s0 (fun p => p) nc).2.2.2.1) ((sitS nj kd ag st y dn ta we si s0 (fun p => p) nc).2.2.2.2.1), ia (a 31) cI 5 kd, ia (a 32) cI 5 (tbF nI od nc), ia (a 33) cI 5 ((sitS nj kd ag st y dn ta we si s0 (fun p => p) nc).1), ia (a 34) cI 6 ((sitS nj kd ag st y dn ta we si s0 (fun p => p) nc).2.1), oK a si (nI nj) (nI nc) (nI wl) (nI s0) (nI st) (nI nr), ia (a 20) cI 5 kd, ia (a 21) cI 5 ag, ia (a 22) cI 5 de, ia (a 23) cI 5 ta, ia (a 24) cI 5 we, ia (a 25) cI 8 rC, ia (a 26) cI 8 rH]) [2, 0, 3, 4, 5, 6, 7, 8, 1, 9, 10, 11, 12, 13, 14] (by decide) rfl ?_
                      exact ihn_10 (y + 1) (cn + 1) (nI y) (nI y) (nI y) ((sitS nj kd ag st y dn ta we si s0 (fun p => p) nc).1) ((sitS nj kd ag st y dn ta we si s0 (fun p => p) nc).2.1) (nI (sitS nj kd ag st y dn ta we si s0 (fun p => p) nc).2.2.1) ((sitS nj kd ag st y dn ta we si s0 (fun p => p) nc).2.2.2.1) ((sitS nj kd ag st y dn ta we si s0 (fun p => p) nc).2.2.2.2.1) (by omega) (by omega) (by rw [cdS, hcd]; simp [c17, c18, c23, c26])
                    · refine v_eqi 0 (bI_f c26) ?_
                      refine v_if_eq C 102 dX4_codes_94 (by decide) (fun _ => ?_) (fun h => absurd h (by decide))
                      refine v_iload C dX4_codes_102 3 rfl ?_
                      refine v_istore C [(4, .int fe), (3, .int (nI y)), (2, .int (nI (cn + 1))), (5, .int (nI y)), (0, .ref (a 0)), (1, .int x)] dX4_codes_104 (by decide) rfl ?_
                      refine v_iinc C (nI (y + 1)) [(5, .int (nI (y + 1))), (4, .int fe), (3, .int (nI y)), (2, .int (nI (cn + 1))), (0, .ref (a 0)), (1, .int x)] 3 dX4_codes_106 rfl (nI_inc _) (by decide) rfl ?_
                      refine v_goto C 41 dX4_codes_109 (by decide) ?_
                      refine v_perm (ws' := [oC a tr fa, ia (a 5) cI 5 bo, oT a (nI nc) (nI y) (nI s0) (nI st) (nI (sitS nj kd ag st y dn ta we si s0 (fun p => p) nc).2.2.1) ((sitS nj kd ag st y dn ta we si s0 (fun p => p) nc).2.2.2.1) ((sitS nj kd ag st y dn ta we si s0 (fun p => p) nc).2.2.2.2.1), ia (a 31) cI 5 kd, ia (a 32) cI 5 (tbF nI od nc), ia (a 33) cI 5 ((sitS nj kd ag st y dn ta we si s0 (fun p => p) nc).1), ia (a 34) cI 6 ((sitS nj kd ag st y dn ta we si s0 (fun p => p) nc).2.1), oK a si (nI nj) (nI nc) (nI wl) (nI s0) (nI st) (nI nr), ia (a 20) cI 5 kd, ia (a 21) cI 5 ag, ia (a 22) cI 5 de, ia (a 23) cI 5 ta, ia (a 24) cI 5 we, ia (a 25) cI 8 rC, ia (a 26) cI 8 rH]) [2, 0, 3, 4, 5, 6, 7, 8, 1, 9, 10, 11, 12, 13, 14] (by decide) rfl ?_
                      exact ihn_10 (y + 1) (cn + 1) (nI y) fe (nI y) ((sitS nj kd ag st y dn ta we si s0 (fun p => p) nc).1) ((sitS nj kd ag st y dn ta we si s0 (fun p => p) nc).2.1) (nI (sitS nj kd ag st y dn ta we si s0 (fun p => p) nc).2.2.1) ((sitS nj kd ag st y dn ta we si s0 (fun p => p) nc).2.2.2.1) ((sitS nj kd ag st y dn ta we si s0 (fun p => p) nc).2.2.2.2.1) (by omega) (by omega) (by rw [cdS, hcd]; simp [c17, c18, c23, c26])
              · refine v_eqi 0 (bI_f c17) ?_
                refine v_if_eq C 106 dX4_codes_61 (by decide) (fun _ => ?_) (fun h => absurd h (by decide))
                refine v_iinc C (nI (y + 1)) [(5, .int (nI (y + 1))), (4, .int fe), (3, .int le), (2, .int (nI cn)), (0, .ref (a 0)), (1, .int x)] 0 dX4_codes_106 rfl (nI_inc _) (by decide) rfl ?_
                refine v_goto C 41 dX4_codes_109 (by decide) ?_
                refine v_perm (ws' := [oC a tr fa, ia (a 5) cI 5 bo, oT a (nI nc) (nI y) (nI s0) (nI st) (nI (sitS nj kd ag st y dn ta we si s0 (fun p => p) nc).2.2.1) ((sitS nj kd ag st y dn ta we si s0 (fun p => p) nc).2.2.2.1) ((sitS nj kd ag st y dn ta we si s0 (fun p => p) nc).2.2.2.2.1), ia (a 31) cI 5 kd, ia (a 32) cI 5 (tbF nI od nc), ia (a 33) cI 5 ((sitS nj kd ag st y dn ta we si s0 (fun p => p) nc).1), ia (a 34) cI 6 ((sitS nj kd ag st y dn ta we si s0 (fun p => p) nc).2.1), oK a si (nI nj) (nI nc) (nI wl) (nI s0) (nI st) (nI nr), ia (a 20) cI 5 kd, ia (a 21) cI 5 ag, ia (a 22) cI 5 de, ia (a 23) cI 5 ta, ia (a 24) cI 5 we, ia (a 25) cI 8 rC, ia (a 26) cI 8 rH]) [2, 0, 3, 4, 5, 6, 7, 8, 1, 9, 10, 11, 12, 13, 14] (by decide) rfl ?_
                exact ihn_10 (y + 1) cn le fe (nI y) ((sitS nj kd ag st y dn ta we si s0 (fun p => p) nc).1) ((sitS nj kd ag st y dn ta we si s0 (fun p => p) nc).2.1) (nI (sitS nj kd ag st y dn ta we si s0 (fun p => p) nc).2.2.1) ((sitS nj kd ag st y dn ta we si s0 (fun p => p) nc).2.2.2.1) ((sitS nj kd ag st y dn ta we si s0 (fun p => p) nc).2.2.2.2.1) (by omega) (by omega) (by rw [cdS, hcd]; simp [c17])
        exact lp (64 - 0 + 1) 0 0 (-9) (-9) (nI wl) ve vd (nI s0) en se (by omega) (by omega) rfl
      · refine v_eqi 0 (bI_f c5) ?_
        refine v_if_ne C 25 dX4_codes_19 (by decide) (fun h => absurd h (by decide)) (fun _ => ?_)
        refine v_bipush C (-3) dX4_codes_22 (by decide) ?_
        exact v_reti C hA dX4_codes_24 rfl (⟨_, _, _, _, _, _, _, _, _, _, _, _, by first | (simp only [cdF, bI, c1, c2, Classical.not_not.mp c5, not_false_eq_true, not_true_eq_false, and_self, and_true, true_and, and_false, false_and, ↓reduceIte]; done) | (simp only [cdF, bI, c1, c2, Classical.not_not.mp c5, not_false_eq_true, not_true_eq_false, and_self, and_true, true_and, and_false, false_and, ↓reduceIte]; rfl) | (simp [cdF, bI, c1, c2, Classical.not_not.mp c5]; done) | rfl, by first | (simp only [cdF, bI, c1, c2, Classical.not_not.mp c5, not_false_eq_true, not_true_eq_false, and_self, and_true, true_and, and_false, false_and, ↓reduceIte]; done) | (simp only [cdF, bI, c1, c2, Classical.not_not.mp c5, not_false_eq_true, not_true_eq_false, and_self, and_true, true_and, and_false, false_and, ↓reduceIte]; rfl) | (simp [cdF, bI, c1, c2, Classical.not_not.mp c5]; done) | rfl⟩)
    · refine v_bipush C (-2) dX4_codes_9 (by decide) ?_
      exact v_reti C hA dX4_codes_11 rfl (⟨_, _, _, _, _, _, _, _, _, _, _, _, by first | (simp only [cdF, bI, c1, c2, not_false_eq_true, not_true_eq_false, and_self, and_true, true_and, and_false, false_and, ↓reduceIte]; done) | (simp only [cdF, bI, c1, c2, not_false_eq_true, not_true_eq_false, and_self, and_true, true_and, and_false, false_and, ↓reduceIte]; rfl) | (simp [cdF, bI, c1, c2]; done) | rfl, by first | (simp only [cdF, bI, c1, c2, not_false_eq_true, not_true_eq_false, and_self, and_true, true_and, and_false, false_and, ↓reduceIte]; done) | (simp only [cdF, bI, c1, c2, not_false_eq_true, not_true_eq_false, and_self, and_true, true_and, and_false, false_and, ↓reduceIte]; rfl) | (simp [cdF, bI, c1, c2]; done) | rfl⟩)
set_option maxHeartbeats 4000000 in
set_option maxRecDepth 100000 in
theorem m_X4_kinds {l : Launch} {D : va_G} {cI cB cS : ClassId} (a : Nat → Nat) (nj nc wl s0 st nr : Nat) (dn rn : Nat → Nat) (tr : Int32) (fa : Int32) (bo : Nat → Int32) (ln : Int32) (lw : Int32) (ss : Int32) (sx : Int32) (un : Int32) (en : Int32) (se : Int32) (tk : Nat → Int32) (od : Nat → Int32) (ve : Nat → Int32) (vd : Nat → Int32) (si : Int32) (kd : Nat → Int32) (ag : Nat → Int32) (de : Nat → Int32) (ta : Nat → Int32) (we : Nat → Int32) (rC : Nat → Int32) (rH : Nat → Int32) (j : Int32) (hnj : nj ≤ 5) (hnc : nc ≤ 5) (hlw : wl < 64) (hs0 : s0 < 2 ^ nj) (hst2 : st < 2 ^ nj) (hp5 : 2 ^ nj ≤ 32) (hnr : nr ≤ 8) (hde : ∀ c, c < nc → de c = nI (dn c) ∧ dn c < 6) (hrc : ∀ q, q < nr → rC q = nI (rn q) ∧ rn q < nc) : Mi l yX4_kinds cX4_kinds 4 (some .int) 5 119 D cI cB cS [.ref (a 0), .int j] [oC a tr fa, ia (a 5) cI 5 bo, oT a ln lw ss sx un en se, ia (a 31) cI 5 tk, ia (a 32) cI 5 od, ia (a 33) cI 5 ve, ia (a 34) cI 6 vd, oK a si (nI nj) (nI nc) (nI wl) (nI s0) (nI st) (nI nr), ia (a 20) cI 5 kd, ia (a 21) cI 5 ag, ia (a 22) cI 5 de, ia (a 23) cI 5 ta, ia (a 24) cI 5 we, ia (a 25) cI 8 rC, ia (a 26) cI 8 rH] (fun r w => ∃ (ln' : Int32) (lw' : Int32) (ss' : Int32) (sx' : Int32) (un' : Int32) (en' : Int32) (se' : Int32) (tk' : Nat → Int32) (od' : Nat → Int32) (ve' : Nat → Int32) (vd' : Nat → Int32) (bo' : Nat → Int32), r = kiF nj (fun jx kx => arB (sitS nj (upd kd jx (nI kx)) ag st wl dn ta we si s0 (fun p => p) nc).1 rn rH nr) j ∧ w = [oC a tr fa, ia (a 5) cI 5 bo', oT a ln' lw' ss' sx' un' en' se', ia (a 31) cI 5 tk', ia (a 32) cI 5 od', ia (a 33) cI 5 ve', ia (a 34) cI 6 vd', oK a si (nI nj) (nI nc) (nI wl) (nI s0) (nI st) (nI nr), ia (a 20) cI 5 kd, ia (a 21) cI 5 ag, ia (a 22) cI 5 de, ia (a 23) cI 5 ta, ia (a 24) cI 5 we, ia (a 25) cI 8 rC, ia (a 26) cI 8 rH]) := by
  refine Mi.of (by decide) (Nat.le_of_ble_eq_true rfl) ?_
  intro zp ze zs zm zb zt zc zz zA hA C hnm
  refine v_lv0 [(0, .ref (a 0)), (1, .int j)] rfl ?_
  refine v_aload_n C dX4_kinds_0 0 rfl ?_
  refine v_get C f_X4_27 dX4_kinds_1 0 rfl rfl ?_
  refine v_iload_n C dX4_kinds_4 1 rfl ?_
  refine v_callRi C l_X4_75 (m_X0_isJuror a si (nI nj) (nI nc) (nI wl) (nI s0) (nI st) (nI nr) j) (by decide) dX4_kinds_5 [7] rfl 7 rfl rfl rfl (rest := []) rfl (Nat.le_of_ble_eq_true rfl) (by decide) (fun r1 h2 => ?_)
  subst h2
  by_cases c3 : ¬ j < 0 ∧ ¬ (nI nj) ≤ j
  · refine v_eqi 1 (bI_t c3) ?_
    refine v_if_ne C 13 dX4_kinds_8 (by decide) (fun _ => ?_) (fun h => absurd h (by decide))
    obtain ⟨jN, hjN, rfl⟩ := ix_of' (by omega) c3
    have zjN : (nI jN).toNatClampNeg = jN := nI_clamp (by omega)
    refine v_aload_n C dX4_kinds_13 0 rfl ?_
    refine v_callMv C l_X4_148 (m_X4_prepareByNumbers a nc tr fa si (nI nj) (nI wl) (nI s0) (nI st) (nI nr) kd ln lw ss sx un en se tk od (by assumption)) (by decide) dX4_kinds_14 [0, 7, 8, 2, 3, 4] [1, 5, 6, 9, 10, 11, 12, 13, 14] (wr := [ia (a 5) cI 5 bo, ia (a 33) cI 5 ve, ia (a 34) cI 6 vd, ia (a 21) cI 5 ag, ia (a 22) cI 5 de, ia (a 23) cI 5 ta, ia (a 24) cI 5 we, ia (a 25) cI 8 rC, ia (a 26) cI 8 rH]) (by decide) rfl rfl (by decide) (by decide) 0 rfl rfl rfl (rest := []) rfl (Nat.le_of_ble_eq_true rfl) (by decide) (fun w4 h5 => ?_)
    subst h5
    refine v_ws0 [ia (a 5) cI 5 bo, ia (a 33) cI 5 ve, ia (a 34) cI 6 vd, ia (a 21) cI 5 ag, ia (a 22) cI 5 de, ia (a 23) cI 5 ta, ia (a 24) cI 5 we, ia (a 25) cI 8 rC, ia (a 26) cI 8 rH, oC a tr fa, oK a si (nI nj) (nI nc) (nI wl) (nI s0) (nI st) (nI nr), ia (a 20) cI 5 kd, oT a (nI nc) (nI wl) (nI s0) (nI st) (nI s0) en se, ia (a 31) cI 5 kd, ia (a 32) cI 5 (tbF nI od nc)] rfl ?_
    refine v_iconst C 0 dX4_kinds_17 (by decide) ?_
    refine v_istore_n C [(2, .int 0), (0, .ref (a 0)), (1, .int (nI jN))] dX4_kinds_18 (by decide) rfl ?_
    refine v_iconst C 0 dX4_kinds_19 (by decide) ?_
    refine v_istore_n C [(3, .int 0), (2, .int 0), (0, .ref (a 0)), (1, .int (nI jN))] dX4_kinds_20 (by decide) rfl ?_
    refine v_perm (ws' := [oC a tr fa, ia (a 5) cI 5 bo, oT a (nI nc) (nI wl) (nI s0) (nI st) (nI s0) en se, ia (a 31) cI 5 kd, ia (a 32) cI 5 (tbF nI od nc), ia (a 33) cI 5 ve, ia (a 34) cI 6 vd, oK a si (nI nj) (nI nc) (nI wl) (nI s0) (nI st) (nI nr), ia (a 20) cI 5 kd, ia (a 21) cI 5 ag, ia (a 22) cI 5 de, ia (a 23) cI 5 ta, ia (a 24) cI 5 we, ia (a 25) cI 8 rC, ia (a 26) cI 8 rH]) [9, 0, 12, 13, 14, 1, 2, 10, 11, 3, 4, 5, 6, 7, 8] (by decide) rfl ?_
    have lp : ∀ (n_8 : Nat) (k : Nat) (m : Nat) (tk1 : Nat → Int32) (ve1 : Nat → Int32) (vd1 : Nat → Int32) (un1 : Int32) (en1 : Int32) (se1 : Int32), 3 - k < n_8 → (k ≤ 3) → (m = mk ((fun jx kx => arB (sitS nj (upd kd jx (nI kx)) ag st wl dn ta we si s0 (fun p => p) nc).1 rn rH nr) jN) k) → (∀ y, upd tk1 jN y = upd kd jN y) → V zp l ze (rmOf 5 119) zs zm [.ref (a 0), .int (nI jN)].toArray zb zt zc D (IM zA zs) (QMi zb [.ref (a 0), .int (nI jN)].toArray zs D cI cB cS [oC a tr fa, ia (a 5) cI 5 bo, oT a ln lw ss sx un en se, ia (a 31) cI 5 tk, ia (a 32) cI 5 od, ia (a 33) cI 5 ve, ia (a 34) cI 6 vd, oK a si (nI nj) (nI nc) (nI wl) (nI s0) (nI st) (nI nr), ia (a 20) cI 5 kd, ia (a 21) cI 5 ag, ia (a 22) cI 5 de, ia (a 23) cI 5 ta, ia (a 24) cI 5 we, ia (a 25) cI 8 rC, ia (a 26) cI 8 rH] zz (fun r w => ∃ (ln' : Int32) (lw' : Int32) (ss' : Int32) (sx' : Int32) (un' : Int32) (en' : Int32) (se' : Int32) (tk' : Nat → Int32) (od' : Nat → Int32) (ve' : Nat → Int32) (vd' : Nat → Int32) (bo' : Nat → Int32), r = kiF nj (fun jx kx => arB (sitS nj (upd kd jx (nI kx)) ag st wl dn ta we si s0 (fun p => p) nc).1 rn rH nr) (nI jN) ∧ w = [oC a tr fa, ia (a 5) cI 5 bo', oT a ln' lw' ss' sx' un' en' se', ia (a 31) cI 5 tk', ia (a 32) cI 5 od', ia (a 33) cI 5 ve', ia (a 34) cI 6 vd', oK a si (nI nj) (nI nc) (nI wl) (nI s0) (nI st) (nI nr), ia (a 20) cI 5 kd, ia (a 21) cI 5 ag, ia (a 22) cI 5 de, ia (a 23) cI 5 ta, ia (a 24) cI 5 we, ia (a 25) cI 8 rC, ia (a 26) cI 8 rH])) 0 0 4 [oC a tr fa, ia (a 5) cI 5 bo, oT a (nI nc) (nI wl) (nI s0) (nI st) un1 en1 se1, ia (a 31) cI 5 tk1, ia (a 32) cI 5 (tbF nI od nc), ia (a 33) cI 5 ve1, ia (a 34) cI 6 vd1, oK a si (nI nj) (nI nc) (nI wl) (nI s0) (nI st) (nI nr), ia (a 20) cI 5 kd, ia (a 21) cI 5 ag, ia (a 22) cI 5 de, ia (a 23) cI 5 ta, ia (a 24) cI 5 we, ia (a 25) cI 8 rC, ia (a 26) cI 8 rH] [(3, .int (nI k)), (2, .int (nI m)), (0, .ref (a 0)), (1, .int (nI jN))] 21 [] := by
      intro n_8
      induction n_8 with
      | zero => intro k m tk1 ve1 vd1 un1 en1 se1 b7; exact absurd b7 (by omega)
      | succ n_8 ihn_8 =>
        intro k m tk1 ve1 vd1 un1 en1 se1 b7 hk hm htk
        refine v_iload_n C dX4_kinds_21 0 rfl ?_
        refine v_iconst C 3 dX4_kinds_22 (by decide) ?_
        refine v_icmp_ge C 52 dX4_kinds_23 (by decide) (fun c9 => ?_) (fun c9 => ?_)
        · have nc9 : 3 ≤ k := nI_leD c9 (by omega)
          have hke : k = 3 := by omega
          rw [hke] at hm
          refine v_iload_n C dX4_kinds_52 1 rfl ?_
          exact v_reti C hA dX4_kinds_53 rfl (⟨_, _, _, _, _, _, _, _, _, _, _, _, by first | (simp only [kiF, hm, zjN, c3, c9, nc9, Nat.not_lt.mpr nc9, not_false_eq_true, not_true_eq_false, and_self, and_true, true_and, and_false, false_and, ↓reduceIte]; done) | (simp [kiF, hm, zjN, c3, c9, nc9, Nat.not_lt.mpr nc9]; done), rfl⟩)
        · have nc9 : k < 3 := nI_ltD c9 (by omega)
          refine v_aload_n C dX4_kinds_26 2 rfl ?_
          refine v_get C f_X4_36 dX4_kinds_27 0 rfl rfl ?_
          refine v_get C f_X4_177 dX4_kinds_30 2 rfl rfl ?_
          refine v_iload_n C dX4_kinds_33 3 rfl ?_
          refine v_iload_n C dX4_kinds_34 0 rfl ?_
          refine v_iastN C [oC a tr fa, ia (a 5) cI 5 bo, oT a (nI nc) (nI wl) (nI s0) (nI st) un1 en1 se1, ia (a 31) cI 5 (upd tk1 jN (nI k)), ia (a 32) cI 5 (tbF nI od nc), ia (a 33) cI 5 ve1, ia (a 34) cI 6 vd1, oK a si (nI nj) (nI nc) (nI wl) (nI s0) (nI st) (nI nr), ia (a 20) cI 5 kd, ia (a 21) cI 5 ag, ia (a 22) cI 5 de, ia (a 23) cI 5 ta, ia (a 24) cI 5 we, ia (a 25) cI 8 rC, ia (a 26) cI 8 rH] dX4_kinds_35 3 rfl jN rfl (by omega) (by decide) rfl ?_
          refine v_ws0 [oC a tr fa, ia (a 5) cI 5 bo, oT a (nI nc) (nI wl) (nI s0) (nI st) un1 en1 se1, ia (a 31) cI 5 (upd kd jN (nI k)), ia (a 32) cI 5 (tbF nI od nc), ia (a 33) cI 5 ve1, ia (a 34) cI 6 vd1, oK a si (nI nj) (nI nc) (nI wl) (nI s0) (nI st) (nI nr), ia (a 20) cI 5 kd, ia (a 21) cI 5 ag, ia (a 22) cI 5 de, ia (a 23) cI 5 ta, ia (a 24) cI 5 we, ia (a 25) cI 8 rC, ia (a 26) cI 8 rH] (by rw [htk]) ?_
          refine v_iload_n C dX4_kinds_36 1 rfl ?_
          refine v_iload_n C dX4_kinds_37 0 rfl ?_
          refine v_aload_n C dX4_kinds_38 2 rfl ?_
          refine v_callMi C l_X4_170 (m_X4_isAsRead a s0 st wl nj nc nc nr (fun p => p) dn rn tr fa un1 en1 se1 (upd kd jN (nI k)) (tbF nI od nc) ve1 vd1 si (nI nc) (nI wl) (nI s0) (nI st) ag de ta we rC rH (by assumption) (by omega) (by omega) (by assumption) (by first | assumption | exact set1_lt nj (by omega) s0 hs0 j (by omega)) hnc (by assumption) (fun p hp => ⟨tbF_in hp, hp⟩) (by assumption) (by assumption) (by assumption)) (by decide) dX4_kinds_39 [0, 2, 3, 4, 5, 6, 7, 9, 10, 11, 12, 13, 14] [1, 8] (wr := [ia (a 5) cI 5 bo, ia (a 20) cI 5 kd]) (by decide) rfl rfl (by decide) (by decide) 0 rfl rfl rfl (rest := [.int (nI k), .int (nI m)]) rfl (Nat.le_of_ble_eq_true rfl) (by decide) (fun r12 w10 h11 => ?_)
          obtain ⟨rfl, rfl⟩ := h11
          refine v_ws0 [ia (a 5) cI 5 bo, ia (a 20) cI 5 kd, oC a tr fa, oT a (nI nc) (nI wl) (nI s0) (nI st) (nI (sitS nj (upd kd jN (nI k)) ag st wl dn ta we si s0 (fun p => p) nc).2.2.1) ((sitS nj (upd kd jN (nI k)) ag st wl dn ta we si s0 (fun p => p) nc).2.2.2.1) ((sitS nj (upd kd jN (nI k)) ag st wl dn ta we si s0 (fun p => p) nc).2.2.2.2.1), ia (a 31) cI 5 (upd kd jN (nI k)), ia (a 32) cI 5 (tbF nI od nc), ia (a 33) cI 5 ((sitS nj (upd kd jN (nI k)) ag st wl dn ta we si s0 (fun p => p) nc).1), ia (a 34) cI 6 ((sitS nj (upd kd jN (nI k)) ag st wl dn ta we si s0 (fun p => p) nc).2.1), oK a si (nI nj) (nI nc) (nI wl) (nI s0) (nI st) (nI nr), ia (a 21) cI 5 ag, ia (a 22) cI 5 de, ia (a 23) cI 5 ta, ia (a 24) cI 5 we, ia (a 25) cI 8 rC, ia (a 26) cI 8 rH] rfl ?_
          by_cases c13 : arB (sitS nj (upd kd jN (nI k)) ag st wl dn ta we si s0 (fun p => p) nc).1 rn rH nr = true
          · refine v_eqi 1 (bI_t c13) ?_
            refine v_callSi C l_X4_113 (m_X4_withBit m k 1 (by have q := mk_lt ((fun jx kx => arB (sitS nj (upd kd jx (nI kx)) ag st wl dn ta we si s0 (fun p => p) nc).1 rn rH nr) jN) k; have := Nat.pow_le_pow_right (n := 2) (by omega) (show k ≤ 5 by omega); omega) (by omega)) (by decide) dX4_kinds_42 [] rfl rfl (rest := []) rfl (Nat.le_of_ble_eq_true rfl) (by decide) (fun r14 h15 => ?_)
            subst h15
            refine v_istore_n C [(2, .int (nI (wbN m k (1 : Int32)))), (3, .int (nI k)), (0, .ref (a 0)), (1, .int (nI jN))] dX4_kinds_45 (by decide) rfl ?_
            refine v_iinc C (nI (k + 1)) [(3, .int (nI (k + 1))), (2, .int (nI (wbN m k (1 : Int32)))), (0, .ref (a 0)), (1, .int (nI jN))] 1 dX4_kinds_46 rfl (nI_inc _) (by decide) rfl ?_
            refine v_goto C 21 dX4_kinds_49 (by decide) ?_
            refine v_perm (ws' := [oC a tr fa, ia (a 5) cI 5 bo, oT a (nI nc) (nI wl) (nI s0) (nI st) (nI (sitS nj (upd kd jN (nI k)) ag st wl dn ta we si s0 (fun p => p) nc).2.2.1) ((sitS nj (upd kd jN (nI k)) ag st wl dn ta we si s0 (fun p => p) nc).2.2.2.1) ((sitS nj (upd kd jN (nI k)) ag st wl dn ta we si s0 (fun p => p) nc).2.2.2.2.1), ia (a 31) cI 5 (upd kd jN (nI k)), ia (a 32) cI 5 (tbF nI od nc), ia (a 33) cI 5 ((sitS nj (upd kd jN (nI k)) ag st wl dn ta we si s0 (fun p => p) nc).1), ia (a 34) cI 6 ((sitS nj (upd kd jN (nI k)) ag st wl dn ta we si s0 (fun p => p) nc).2.1), oK a si (nI nj) (nI nc) (nI wl) (nI s0) (nI st) (nI nr), ia (a 20) cI 5 kd, ia (a 21) cI 5 ag, ia (a 22) cI 5 de, ia (a 23) cI 5 ta, ia (a 24) cI 5 we, ia (a 25) cI 8 rC, ia (a 26) cI 8 rH]) [2, 0, 3, 4, 5, 6, 7, 8, 1, 9, 10, 11, 12, 13, 14] (by decide) rfl ?_
            exact ihn_8 (k + 1) (wbN m k (1 : Int32)) (upd kd jN (nI k)) ((sitS nj (upd kd jN (nI k)) ag st wl dn ta we si s0 (fun p => p) nc).1) ((sitS nj (upd kd jN (nI k)) ag st wl dn ta we si s0 (fun p => p) nc).2.1) (nI (sitS nj (upd kd jN (nI k)) ag st wl dn ta we si s0 (fun p => p) nc).2.2.1) ((sitS nj (upd kd jN (nI k)) ag st wl dn ta we si s0 (fun p => p) nc).2.2.2.1) ((sitS nj (upd kd jN (nI k)) ag st wl dn ta we si s0 (fun p => p) nc).2.2.2.2.1) (by omega) (by omega) (by rw [hm]; exact wb_mk (by omega) (by simp [c13])) (fun y => upd_twice _ _ _ _)
          · refine v_eqi 0 (bI_f c13) ?_
            refine v_callSi C l_X4_113 (m_X4_withBit m k 0 (by have q := mk_lt ((fun jx kx => arB (sitS nj (upd kd jx (nI kx)) ag st wl dn ta we si s0 (fun p => p) nc).1 rn rH nr) jN) k; have := Nat.pow_le_pow_right (n := 2) (by omega) (show k ≤ 5 by omega); omega) (by omega)) (by decide) dX4_kinds_42 [] rfl rfl (rest := []) rfl (Nat.le_of_ble_eq_true rfl) (by decide) (fun r16 h17 => ?_)
            subst h17
            refine v_istore_n C [(2, .int (nI (wbN m k (0 : Int32)))), (3, .int (nI k)), (0, .ref (a 0)), (1, .int (nI jN))] dX4_kinds_45 (by decide) rfl ?_
            refine v_iinc C (nI (k + 1)) [(3, .int (nI (k + 1))), (2, .int (nI (wbN m k (0 : Int32)))), (0, .ref (a 0)), (1, .int (nI jN))] 1 dX4_kinds_46 rfl (nI_inc _) (by decide) rfl ?_
            refine v_goto C 21 dX4_kinds_49 (by decide) ?_
            refine v_perm (ws' := [oC a tr fa, ia (a 5) cI 5 bo, oT a (nI nc) (nI wl) (nI s0) (nI st) (nI (sitS nj (upd kd jN (nI k)) ag st wl dn ta we si s0 (fun p => p) nc).2.2.1) ((sitS nj (upd kd jN (nI k)) ag st wl dn ta we si s0 (fun p => p) nc).2.2.2.1) ((sitS nj (upd kd jN (nI k)) ag st wl dn ta we si s0 (fun p => p) nc).2.2.2.2.1), ia (a 31) cI 5 (upd kd jN (nI k)), ia (a 32) cI 5 (tbF nI od nc), ia (a 33) cI 5 ((sitS nj (upd kd jN (nI k)) ag st wl dn ta we si s0 (fun p => p) nc).1), ia (a 34) cI 6 ((sitS nj (upd kd jN (nI k)) ag st wl dn ta we si s0 (fun p => p) nc).2.1), oK a si (nI nj) (nI nc) (nI wl) (nI s0) (nI st) (nI nr), ia (a 20) cI 5 kd, ia (a 21) cI 5 ag, ia (a 22) cI 5 de, ia (a 23) cI 5 ta, ia (a 24) cI 5 we, ia (a 25) cI 8 rC, ia (a 26) cI 8 rH]) [2, 0, 3, 4, 5, 6, 7, 8, 1, 9, 10, 11, 12, 13, 14] (by decide) rfl ?_
            exact ihn_8 (k + 1) (wbN m k (0 : Int32)) (upd kd jN (nI k)) ((sitS nj (upd kd jN (nI k)) ag st wl dn ta we si s0 (fun p => p) nc).1) ((sitS nj (upd kd jN (nI k)) ag st wl dn ta we si s0 (fun p => p) nc).2.1) (nI (sitS nj (upd kd jN (nI k)) ag st wl dn ta we si s0 (fun p => p) nc).2.2.1) ((sitS nj (upd kd jN (nI k)) ag st wl dn ta we si s0 (fun p => p) nc).2.2.2.1) ((sitS nj (upd kd jN (nI k)) ag st wl dn ta we si s0 (fun p => p) nc).2.2.2.2.1) (by omega) (by omega) (by rw [hm]; exact wb_mk (by omega) (by simp [c13])) (fun y => upd_twice _ _ _ _)
    exact lp (3 - 0 + 1) 0 0 kd ve vd (nI s0) en se (by omega) (by omega) rfl (fun y => rfl)
  · refine v_eqi 0 (bI_f c3) ?_
    refine v_if_ne C 13 dX4_kinds_8 (by decide) (fun h => absurd h (by decide)) (fun _ => ?_)
    refine v_iconst C (-1) dX4_kinds_11 (by decide) ?_
    exact v_reti C hA dX4_kinds_12 rfl (⟨_, _, _, _, _, _, _, _, _, _, _, _, by first | (simp only [kiF, bI, c3, not_false_eq_true, not_true_eq_false, and_self, and_true, true_and, and_false, false_and, ↓reduceIte]; done) | (simp only [kiF, bI, c3, not_false_eq_true, not_true_eq_false, and_self, and_true, true_and, and_false, false_and, ↓reduceIte]; rfl) | (simp [kiF, bI, c3]; done) | rfl, by first | (simp only [kiF, bI, c3, not_false_eq_true, not_true_eq_false, and_self, and_true, true_and, and_false, false_and, ↓reduceIte]; done) | (simp only [kiF, bI, c3, not_false_eq_true, not_true_eq_false, and_self, and_true, true_and, and_false, false_and, ↓reduceIte]; rfl) | (simp [kiF, bI, c3]; done) | rfl⟩)
set_option maxHeartbeats 4000000 in
set_option maxRecDepth 100000 in
theorem m_X4_treated {l : Launch} {D : va_G} {cI cB cS : ClassId} (a : Nat → Nat) (nj nc wl s0 st nr : Nat) (dn rn : Nat → Nat) (tr : Int32) (fa : Int32) (bo : Nat → Int32) (ln : Int32) (lw : Int32) (ss : Int32) (sx : Int32) (un : Int32) (en : Int32) (se : Int32) (tk : Nat → Int32) (od : Nat → Int32) (ve : Nat → Int32) (vd : Nat → Int32) (si : Int32) (kd : Nat → Int32) (ag : Nat → Int32) (de : Nat → Int32) (ta : Nat → Int32) (we : Nat → Int32) (rC : Nat → Int32) (rH : Nat → Int32) (hnj : nj ≤ 5) (hnc : nc ≤ 5) (hlw : wl < 64) (hs0 : s0 < 2 ^ nj) (hst2 : st < 2 ^ nj) (hp5 : 2 ^ nj ≤ 32) (hnr : nr ≤ 8) (hde : ∀ c, c < nc → de c = nI (dn c) ∧ dn c < 6) (hrc : ∀ q, q < nr → rC q = nI (rn q) ∧ rn q < nc) : Mi l yX4_treated cX4_treated 3 (some .int) 5 119 D cI cB cS [.ref (a 0)] [oC a tr fa, ia (a 5) cI 5 bo, oT a ln lw ss sx un en se, ia (a 31) cI 5 tk, ia (a 32) cI 5 od, ia (a 33) cI 5 ve, ia (a 34) cI 6 vd, oK a si (nI nj) (nI nc) (nI wl) (nI s0) (nI st) (nI nr), ia (a 20) cI 5 kd, ia (a 21) cI 5 ag, ia (a 22) cI 5 de, ia (a 23) cI 5 ta, ia (a 24) cI 5 we, ia (a 25) cI 8 rC, ia (a 26) cI 8 rH] (fun r w => ∃ (ln' : Int32) (lw' : Int32) (ss' : Int32) (sx' : Int32) (un' : Int32) (en' : Int32) (se' : Int32) (tk' : Nat → Int32) (od' : Nat → Int32) (ve' : Nat → Int32) (vd' : Nat → Int32) (bo' : Nat → Int32), r = teF nj nc (fun jx => arB (sitS nj kd ag st wl dn ta we si (set1 s0 jx) (fun p => p) nc).1 rn rH nr) ∧ w = [oC a tr fa, ia (a 5) cI 5 bo', oT a ln' lw' ss' sx' un' en' se', ia (a 31) cI 5 tk', ia (a 32) cI 5 od', ia (a 33) cI 5 ve', ia (a 34) cI 6 vd', oK a si (nI nj) (nI nc) (nI wl) (nI s0) (nI st) (nI nr), ia (a 20) cI 5 kd, ia (a 21) cI 5 ag, ia (a 22) cI 5 de, ia (a 23) cI 5 ta, ia (a 24) cI 5 we, ia (a 25) cI 8 rC, ia (a 26) cI 8 rH]) := by
  refine Mi.of (by decide) (Nat.le_of_ble_eq_true rfl) ?_
  intro zp ze zs zm zb zt zc zz zA hA C hnm
  refine v_lv0 [(0, .ref (a 0))] rfl ?_
  refine v_aload_n C dX4_treated_0 0 rfl ?_
  refine v_get C f_X4_27 dX4_treated_1 0 rfl rfl ?_
  refine v_callRi C l_X4_106 (m_X0_stands a si (nI nj) (nI nc) (nI wl) (nI s0) (nI st) (nI nr)) (by decide) dX4_treated_4 [7] rfl 7 rfl rfl rfl (rest := []) rfl (Nat.le_of_ble_eq_true rfl) (by decide) (fun r1 h2 => ?_)
  subst h2
  by_cases c3 : ¬ (nI nc) ≤ 0
  · refine v_eqi 1 (bI_t c3) ?_
    refine v_if_ne C 13 dX4_treated_7 (by decide) (fun _ => ?_) (fun h => absurd h (by decide))
    refine v_aload_n C dX4_treated_13 0 rfl ?_
    refine v_callMv C l_X4_148 (m_X4_prepareByNumbers a nc tr fa si (nI nj) (nI wl) (nI s0) (nI st) (nI nr) kd ln lw ss sx un en se tk od (by assumption)) (by decide) dX4_treated_14 [0, 7, 8, 2, 3, 4] [1, 5, 6, 9, 10, 11, 12, 13, 14] (wr := [ia (a 5) cI 5 bo, ia (a 33) cI 5 ve, ia (a 34) cI 6 vd, ia (a 21) cI 5 ag, ia (a 22) cI 5 de, ia (a 23) cI 5 ta, ia (a 24) cI 5 we, ia (a 25) cI 8 rC, ia (a 26) cI 8 rH]) (by decide) rfl rfl (by decide) (by decide) 0 rfl rfl rfl (rest := []) rfl (Nat.le_of_ble_eq_true rfl) (by decide) (fun w4 h5 => ?_)
    subst h5
    refine v_ws0 [ia (a 5) cI 5 bo, ia (a 33) cI 5 ve, ia (a 34) cI 6 vd, ia (a 21) cI 5 ag, ia (a 22) cI 5 de, ia (a 23) cI 5 ta, ia (a 24) cI 5 we, ia (a 25) cI 8 rC, ia (a 26) cI 8 rH, oC a tr fa, oK a si (nI nj) (nI nc) (nI wl) (nI s0) (nI st) (nI nr), ia (a 20) cI 5 kd, oT a (nI nc) (nI wl) (nI s0) (nI st) (nI s0) en se, ia (a 31) cI 5 kd, ia (a 32) cI 5 (tbF nI od nc)] rfl ?_
    refine v_iconst C 0 dX4_treated_17 (by decide) ?_
    refine v_istore_n C [(1, .int 0), (0, .ref (a 0))] dX4_treated_18 (by decide) rfl ?_
    refine v_iconst C 0 dX4_treated_19 (by decide) ?_
    refine v_istore_n C [(2, .int 0), (1, .int 0), (0, .ref (a 0))] dX4_treated_20 (by decide) rfl ?_
    refine v_perm (ws' := [oC a tr fa, ia (a 5) cI 5 bo, oT a (nI nc) (nI wl) (nI s0) (nI st) (nI s0) en se, ia (a 31) cI 5 kd, ia (a 32) cI 5 (tbF nI od nc), ia (a 33) cI 5 ve, ia (a 34) cI 6 vd, oK a si (nI nj) (nI nc) (nI wl) (nI s0) (nI st) (nI nr), ia (a 20) cI 5 kd, ia (a 21) cI 5 ag, ia (a 22) cI 5 de, ia (a 23) cI 5 ta, ia (a 24) cI 5 we, ia (a 25) cI 8 rC, ia (a 26) cI 8 rH]) [9, 0, 12, 13, 14, 1, 2, 10, 11, 3, 4, 5, 6, 7, 8] (by decide) rfl ?_
    have lp : ∀ (n_8 : Nat) (j : Nat) (m : Nat) (ss1 : Int32) (ve1 : Nat → Int32) (vd1 : Nat → Int32) (un1 : Int32) (en1 : Int32) (se1 : Int32), nj - j < n_8 → (j ≤ nj) → (m = mk ((fun jx => arB (sitS nj kd ag st wl dn ta we si (set1 s0 jx) (fun p => p) nc).1 rn rH nr)) j) → V zp l ze (rmOf 5 119) zs zm [.ref (a 0)].toArray zb zt zc D (IM zA zs) (QMi zb [.ref (a 0)].toArray zs D cI cB cS [oC a tr fa, ia (a 5) cI 5 bo, oT a ln lw ss sx un en se, ia (a 31) cI 5 tk, ia (a 32) cI 5 od, ia (a 33) cI 5 ve, ia (a 34) cI 6 vd, oK a si (nI nj) (nI nc) (nI wl) (nI s0) (nI st) (nI nr), ia (a 20) cI 5 kd, ia (a 21) cI 5 ag, ia (a 22) cI 5 de, ia (a 23) cI 5 ta, ia (a 24) cI 5 we, ia (a 25) cI 8 rC, ia (a 26) cI 8 rH] zz (fun r w => ∃ (ln' : Int32) (lw' : Int32) (ss' : Int32) (sx' : Int32) (un' : Int32) (en' : Int32) (se' : Int32) (tk' : Nat → Int32) (od' : Nat → Int32) (ve' : Nat → Int32) (vd' : Nat → Int32) (bo' : Nat → Int32), r = teF nj nc (fun jx => arB (sitS nj kd ag st wl dn ta we si (set1 s0 jx) (fun p => p) nc).1 rn rH nr) ∧ w = [oC a tr fa, ia (a 5) cI 5 bo', oT a ln' lw' ss' sx' un' en' se', ia (a 31) cI 5 tk', ia (a 32) cI 5 od', ia (a 33) cI 5 ve', ia (a 34) cI 6 vd', oK a si (nI nj) (nI nc) (nI wl) (nI s0) (nI st) (nI nr), ia (a 20) cI 5 kd, ia (a 21) cI 5 ag, ia (a 22) cI 5 de, ia (a 23) cI 5 ta, ia (a 24) cI 5 we, ia (a 25) cI 8 rC, ia (a 26) cI 8 rH])) 0 0 3 [oC a tr fa, ia (a 5) cI 5 bo, oT a (nI nc) (nI wl) ss1 (nI st) un1 en1 se1, ia (a 31) cI 5 kd, ia (a 32) cI 5 (tbF nI od nc), ia (a 33) cI 5 ve1, ia (a 34) cI 6 vd1, oK a si (nI nj) (nI nc) (nI wl) (nI s0) (nI st) (nI nr), ia (a 20) cI 5 kd, ia (a 21) cI 5 ag, ia (a 22) cI 5 de, ia (a 23) cI 5 ta, ia (a 24) cI 5 we, ia (a 25) cI 8 rC, ia (a 26) cI 8 rH] [(2, .int (nI j)), (1, .int (nI m)), (0, .ref (a 0))] 21 [] := by
      intro n_8
      induction n_8 with
      | zero => intro j m ss1 ve1 vd1 un1 en1 se1 b7; exact absurd b7 (by omega)
      | succ n_8 ihn_8 =>
        intro j m ss1 ve1 vd1 un1 en1 se1 b7 hj hm
        refine v_iload_n C dX4_treated_21 0 rfl ?_
        refine v_aload_n C dX4_treated_22 2 rfl ?_
        refine v_get C f_X4_27 dX4_treated_23 0 rfl rfl ?_
        refine v_get C f_X4_151 dX4_treated_26 7 rfl rfl ?_
        refine v_icmp_ge C 67 dX4_treated_29 (by decide) (fun c9 => ?_) (fun c9 => ?_)
        · have nc9 : nj ≤ j := nI_leD c9 (by omega)
          have hke : j = nj := by omega
          rw [hke] at hm
          refine v_iload_n C dX4_treated_67 1 rfl ?_
          exact v_reti C hA dX4_treated_68 rfl (⟨_, _, _, _, _, _, _, _, _, _, _, _, by first | (simp only [teF, hm, c3, c9, nc9, Nat.not_lt.mpr nc9, not_false_eq_true, not_true_eq_false, and_self, and_true, true_and, and_false, false_and, ↓reduceIte]; done) | (simp [teF, hm, c3, c9, nc9, Nat.not_lt.mpr nc9]; done), rfl⟩)
        · have nc9 : j < nj := nI_ltD c9 (by omega)
          refine v_aload_n C dX4_treated_32 2 rfl ?_
          refine v_get C f_X4_36 dX4_treated_33 0 rfl rfl ?_
          refine v_aload_n C dX4_treated_36 2 rfl ?_
          refine v_get C f_X4_27 dX4_treated_37 0 rfl rfl ?_
          refine v_get C f_X4_84 dX4_treated_40 7 rfl rfl ?_
          refine v_iload_n C dX4_treated_43 0 rfl ?_
          refine v_iconst C 1 dX4_treated_44 (by decide) ?_
          refine v_callSi C l_X4_113 (m_X4_withBit s0 j 1 (by omega) (by omega)) (by decide) dX4_treated_45 [] rfl rfl (rest := [.ref (a 4)]) rfl (Nat.le_of_ble_eq_true rfl) (by decide) (fun r10 h11 => ?_)
          subst h11
          refine v_eqi (nI (set1 s0 j)) (rfl) ?_
          refine v_put C p_X4_178 [oC a tr fa, ia (a 5) cI 5 bo, oT a (nI nc) (nI wl) (nI (set1 s0 j)) (nI st) un1 en1 se1, ia (a 31) cI 5 kd, ia (a 32) cI 5 (tbF nI od nc), ia (a 33) cI 5 ve1, ia (a 34) cI 6 vd1, oK a si (nI nj) (nI nc) (nI wl) (nI s0) (nI st) (nI nr), ia (a 20) cI 5 kd, ia (a 21) cI 5 ag, ia (a 22) cI 5 de, ia (a 23) cI 5 ta, ia (a 24) cI 5 we, ia (a 25) cI 8 rC, ia (a 26) cI 8 rH] dX4_treated_48 2 rfl rfl rfl (Nat.le_of_ble_eq_true rfl) rfl ?_
          refine v_iload_n C dX4_treated_51 1 rfl ?_
          refine v_iload_n C dX4_treated_52 0 rfl ?_
          refine v_aload_n C dX4_treated_53 2 rfl ?_
          refine v_callMi C l_X4_170 (m_X4_isAsRead a (set1 s0 j) st wl nj nc nc nr (fun p => p) dn rn tr fa un1 en1 se1 kd (tbF nI od nc) ve1 vd1 si (nI nc) (nI wl) (nI s0) (nI st) ag de ta we rC rH (by assumption) (by omega) (by omega) (by assumption) (by first | assumption | exact set1_lt nj (by omega) s0 hs0 j (by omega)) hnc (by assumption) (fun p hp => ⟨tbF_in hp, hp⟩) (by assumption) (by assumption) (by assumption)) (by decide) dX4_treated_54 [0, 2, 3, 4, 5, 6, 7, 9, 10, 11, 12, 13, 14] [1, 8] (wr := [ia (a 5) cI 5 bo, ia (a 20) cI 5 kd]) (by decide) rfl rfl (by decide) (by decide) 0 rfl rfl rfl (rest := [.int (nI j), .int (nI m)]) rfl (Nat.le_of_ble_eq_true rfl) (by decide) (fun r14 w12 h13 => ?_)
          obtain ⟨rfl, rfl⟩ := h13
          refine v_ws0 [ia (a 5) cI 5 bo, ia (a 20) cI 5 kd, oC a tr fa, oT a (nI nc) (nI wl) (nI (set1 s0 j)) (nI st) (nI (sitS nj kd ag st wl dn ta we si (set1 s0 j) (fun p => p) nc).2.2.1) ((sitS nj kd ag st wl dn ta we si (set1 s0 j) (fun p => p) nc).2.2.2.1) ((sitS nj kd ag st wl dn ta we si (set1 s0 j) (fun p => p) nc).2.2.2.2.1), ia (a 31) cI 5 kd, ia (a 32) cI 5 (tbF nI od nc), ia (a 33) cI 5 ((sitS nj kd ag st wl dn ta we si (set1 s0 j) (fun p => p) nc).1), ia (a 34) cI 6 ((sitS nj kd ag st wl dn ta we si (set1 s0 j) (fun p => p) nc).2.1), oK a si (nI nj) (nI nc) (nI wl) (nI s0) (nI st) (nI nr), ia (a 21) cI 5 ag, ia (a 22) cI 5 de, ia (a 23) cI 5 ta, ia (a 24) cI 5 we, ia (a 25) cI 8 rC, ia (a 26) cI 8 rH] rfl ?_
          by_cases c15 : arB (sitS nj kd ag st wl dn ta we si (set1 s0 j) (fun p => p) nc).1 rn rH nr = true
          · refine v_eqi 1 (bI_t c15) ?_
            refine v_callSi C l_X4_113 (m_X4_withBit m j 1 (by have q := mk_lt ((fun jx => arB (sitS nj kd ag st wl dn ta we si (set1 s0 jx) (fun p => p) nc).1 rn rH nr)) j; have := Nat.pow_le_pow_right (n := 2) (by omega) (show j ≤ 5 by omega); omega) (by omega)) (by decide) dX4_treated_57 [] rfl rfl (rest := []) rfl (Nat.le_of_ble_eq_true rfl) (by decide) (fun r16 h17 => ?_)
            subst h17
            refine v_istore_n C [(1, .int (nI (wbN m j (1 : Int32)))), (2, .int (nI j)), (0, .ref (a 0))] dX4_treated_60 (by decide) rfl ?_
            refine v_iinc C (nI (j + 1)) [(2, .int (nI (j + 1))), (1, .int (nI (wbN m j (1 : Int32)))), (0, .ref (a 0))] 1 dX4_treated_61 rfl (nI_inc _) (by decide) rfl ?_
            refine v_goto C 21 dX4_treated_64 (by decide) ?_
            refine v_perm (ws' := [oC a tr fa, ia (a 5) cI 5 bo, oT a (nI nc) (nI wl) (nI (set1 s0 j)) (nI st) (nI (sitS nj kd ag st wl dn ta we si (set1 s0 j) (fun p => p) nc).2.2.1) ((sitS nj kd ag st wl dn ta we si (set1 s0 j) (fun p => p) nc).2.2.2.1) ((sitS nj kd ag st wl dn ta we si (set1 s0 j) (fun p => p) nc).2.2.2.2.1), ia (a 31) cI 5 kd, ia (a 32) cI 5 (tbF nI od nc), ia (a 33) cI 5 ((sitS nj kd ag st wl dn ta we si (set1 s0 j) (fun p => p) nc).1), ia (a 34) cI 6 ((sitS nj kd ag st wl dn ta we si (set1 s0 j) (fun p => p) nc).2.1), oK a si (nI nj) (nI nc) (nI wl) (nI s0) (nI st) (nI nr), ia (a 20) cI 5 kd, ia (a 21) cI 5 ag, ia (a 22) cI 5 de, ia (a 23) cI 5 ta, ia (a 24) cI 5 we, ia (a 25) cI 8 rC, ia (a 26) cI 8 rH]) [2, 0, 3, 4, 5, 6, 7, 8, 1, 9, 10, 11, 12, 13, 14] (by decide) rfl ?_
            exact ihn_8 (j + 1) (wbN m j (1 : Int32)) (nI (set1 s0 j)) ((sitS nj kd ag st wl dn ta we si (set1 s0 j) (fun p => p) nc).1) ((sitS nj kd ag st wl dn ta we si (set1 s0 j) (fun p => p) nc).2.1) (nI (sitS nj kd ag st wl dn ta we si (set1 s0 j) (fun p => p) nc).2.2.1) ((sitS nj kd ag st wl dn ta we si (set1 s0 j) (fun p => p) nc).2.2.2.1) ((sitS nj kd ag st wl dn ta we si (set1 s0 j) (fun p => p) nc).2.2.2.2.1) (by omega) (by omega) (by rw [hm]; exact wb_mk (by omega) (by simp [c15]))
          · refine v_eqi 0 (bI_f c15) ?_
            refine v_callSi C l_X4_113 (m_X4_withBit m j 0 (by have q := mk_lt ((fun jx => arB (sitS nj kd ag st wl dn ta we si (set1 s0 jx) (fun p => p) nc).1 rn rH nr)) j; have := Nat.pow_le_pow_right (n := 2) (by omega) (show j ≤ 5 by omega); omega) (by omega)) (by decide) dX4_treated_57 [] rfl rfl (rest := []) rfl (Nat.le_of_ble_eq_true rfl) (by decide) (fun r18 h19 => ?_)
            subst h19
            refine v_istore_n C [(1, .int (nI (wbN m j (0 : Int32)))), (2, .int (nI j)), (0, .ref (a 0))] dX4_treated_60 (by decide) rfl ?_
            refine v_iinc C (nI (j + 1)) [(2, .int (nI (j + 1))), (1, .int (nI (wbN m j (0 : Int32)))), (0, .ref (a 0))] 1 dX4_treated_61 rfl (nI_inc _) (by decide) rfl ?_
            refine v_goto C 21 dX4_treated_64 (by decide) ?_
            refine v_perm (ws' := [oC a tr fa, ia (a 5) cI 5 bo, oT a (nI nc) (nI wl) (nI (set1 s0 j)) (nI st) (nI (sitS nj kd ag st wl dn ta we si (set1 s0 j) (fun p => p) nc).2.2.1) ((sitS nj kd ag st wl dn ta we si (set1 s0 j) (fun p => p) nc).2.2.2.1) ((sitS nj kd ag st wl dn ta we si (set1 s0 j) (fun p => p) nc).2.2.2.2.1), ia (a 31) cI 5 kd, ia (a 32) cI 5 (tbF nI od nc), ia (a 33) cI 5 ((sitS nj kd ag st wl dn ta we si (set1 s0 j) (fun p => p) nc).1), ia (a 34) cI 6 ((sitS nj kd ag st wl dn ta we si (set1 s0 j) (fun p => p) nc).2.1), oK a si (nI nj) (nI nc) (nI wl) (nI s0) (nI st) (nI nr), ia (a 20) cI 5 kd, ia (a 21) cI 5 ag, ia (a 22) cI 5 de, ia (a 23) cI 5 ta, ia (a 24) cI 5 we, ia (a 25) cI 8 rC, ia (a 26) cI 8 rH]) [2, 0, 3, 4, 5, 6, 7, 8, 1, 9, 10, 11, 12, 13, 14] (by decide) rfl ?_
            exact ihn_8 (j + 1) (wbN m j (0 : Int32)) (nI (set1 s0 j)) ((sitS nj kd ag st wl dn ta we si (set1 s0 j) (fun p => p) nc).1) ((sitS nj kd ag st wl dn ta we si (set1 s0 j) (fun p => p) nc).2.1) (nI (sitS nj kd ag st wl dn ta we si (set1 s0 j) (fun p => p) nc).2.2.1) ((sitS nj kd ag st wl dn ta we si (set1 s0 j) (fun p => p) nc).2.2.2.1) ((sitS nj kd ag st wl dn ta we si (set1 s0 j) (fun p => p) nc).2.2.2.2.1) (by omega) (by omega) (by rw [hm]; exact wb_mk (by omega) (by simp [c15]))
    exact lp (nj - 0 + 1) 0 0 (nI s0) ve vd (nI s0) en se (by omega) (by omega) rfl
  · refine v_eqi 0 (bI_f c3) ?_
    refine v_if_ne C 13 dX4_treated_7 (by decide) (fun h => absurd h (by decide)) (fun _ => ?_)
    refine v_bipush C (-3) dX4_treated_10 (by decide) ?_
    exact v_reti C hA dX4_treated_12 rfl (⟨_, _, _, _, _, _, _, _, _, _, _, _, by first | (simp only [teF, bI, Classical.not_not.mp c3, not_false_eq_true, not_true_eq_false, and_self, and_true, true_and, and_false, false_and, ↓reduceIte]; done) | (simp only [teF, bI, Classical.not_not.mp c3, not_false_eq_true, not_true_eq_false, and_self, and_true, true_and, and_false, false_and, ↓reduceIte]; rfl) | (simp [teF, bI, Classical.not_not.mp c3]; done) | rfl, by first | (simp only [teF, bI, Classical.not_not.mp c3, not_false_eq_true, not_true_eq_false, and_self, and_true, true_and, and_false, false_and, ↓reduceIte]; done) | (simp only [teF, bI, Classical.not_not.mp c3, not_false_eq_true, not_true_eq_false, and_self, and_true, true_and, and_false, false_and, ↓reduceIte]; rfl) | (simp [teF, bI, Classical.not_not.mp c3]; done) | rfl⟩)
set_option maxHeartbeats 4000000 in
set_option maxRecDepth 100000 in
theorem m_X4_odds {l : Launch} {D : va_G} {cI cB cS : ClassId} (a : Nat → Nat) (nj nc wl s0 st nr : Nat) (dn : Nat → Nat) (tr : Int32) (fa : Int32) (bo : Nat → Int32) (ln : Int32) (lw : Int32) (ss : Int32) (sx : Int32) (un : Int32) (en : Int32) (se : Int32) (tk : Nat → Int32) (od : Nat → Int32) (ve : Nat → Int32) (vd : Nat → Int32) (si : Int32) (kd : Nat → Int32) (ag : Nat → Int32) (de : Nat → Int32) (ta : Nat → Int32) (we : Nat → Int32) (rC : Nat → Int32) (rH : Nat → Int32) (c : Int32) (x : Int32) (hnj : nj ≤ 5) (hnc : nc ≤ 5) (hlw : wl < 64) (hs0 : s0 < 2 ^ nj) (hst2 : st < 2 ^ nj) (hp5 : 2 ^ nj ≤ 32) (hnr : nr ≤ 8) (hde : ∀ c, c < nc → de c = nI (dn c) ∧ dn c < 6) : Ml l yX4_odds cX4_odds 6 4 98 D cI cB cS [.ref (a 0), .int c, .int x] [oC a tr fa, ia (a 5) cI 5 bo, oT a ln lw ss sx un en se, ia (a 31) cI 5 tk, ia (a 32) cI 5 od, ia (a 33) cI 5 ve, ia (a 34) cI 6 vd, oK a si (nI nj) (nI nc) (nI wl) (nI s0) (nI st) (nI nr), ia (a 20) cI 5 kd, ia (a 21) cI 5 ag, ia (a 22) cI 5 de, ia (a 23) cI 5 ta, ia (a 24) cI 5 we, ia (a 25) cI 8 rC, ia (a 26) cI 8 rH] (fun r w => ∃ (ln' : Int32) (lw' : Int32) (ss' : Int32) (sx' : Int32) (un' : Int32) (en' : Int32) (se' : Int32) (tk' : Nat → Int32) (od' : Nat → Int32) (ve' : Nat → Int32) (vd' : Nat → Int32) (bo' : Nat → Int32), r = odF nj nc (fun cx yx => decide ((sitS nj kd ag yx wl dn ta we si s0 (fun p => p) nc).1 cx = 1)) c x ∧ w = [oC a tr fa, ia (a 5) cI 5 bo', oT a ln' lw' ss' sx' un' en' se', ia (a 31) cI 5 tk', ia (a 32) cI 5 od', ia (a 33) cI 5 ve', ia (a 34) cI 6 vd', oK a si (nI nj) (nI nc) (nI wl) (nI s0) (nI st) (nI nr), ia (a 20) cI 5 kd, ia (a 21) cI 5 ag, ia (a 22) cI 5 de, ia (a 23) cI 5 ta, ia (a 24) cI 5 we, ia (a 25) cI 8 rC, ia (a 26) cI 8 rH]) := by
  refine Ml.of (by decide) (Nat.le_of_ble_eq_true rfl) ?_
  intro zp ze zs zm zb zt zc zz zA hA C hnm
  refine v_lv0 [(0, .ref (a 0)), (1, .int c), (2, .int x)] rfl ?_
  refine v_aload_n C dX4_odds_0 0 rfl ?_
  refine v_get C f_X4_27 dX4_odds_1 0 rfl rfl ?_
  refine v_iload_n C dX4_odds_4 1 rfl ?_
  refine v_callRi C l_X4_94 (m_X0_isCase a si (nI nj) (nI nc) (nI wl) (nI s0) (nI st) (nI nr) c) (by decide) dX4_odds_5 [7] rfl 7 rfl rfl rfl (rest := []) rfl (Nat.le_of_ble_eq_true rfl) (by decide) (fun r1 h2 => ?_)
  subst h2
  by_cases c3 : ¬ c < 0 ∧ ¬ (nI nc) ≤ c
  · refine v_eqi 1 (bI_t c3) ?_
    refine v_if_eq C 20 dX4_odds_8 (by decide) (fun h => absurd h (by decide)) (fun _ => ?_)
    obtain ⟨cN, hcN, rfl⟩ := ix_of' (by omega) c3
    have zcN : (nI cN).toNatClampNeg = cN := nI_clamp (by omega)
    refine v_iload_n C dX4_odds_11 2 rfl ?_
    refine v_if_lt C 20 dX4_odds_12 (by decide) (fun c4 => ?_) (fun c4 => ?_)
    · refine v_ldc2 C k_X4_179 dX4_odds_20 ?_
      exact v_retl C hA dX4_odds_23 (⟨_, _, _, _, _, _, _, _, _, _, _, _, by first | (simp only [odF, bI, zcN, c3, c4, not_false_eq_true, not_true_eq_false, and_self, and_true, true_and, and_false, false_and, ↓reduceIte]; done) | (simp only [odF, bI, zcN, c3, c4, not_false_eq_true, not_true_eq_false, and_self, and_true, true_and, and_false, false_and, ↓reduceIte]; rfl) | (simp [odF, bI, zcN, c3, c4]; done) | rfl, by first | (simp only [odF, bI, zcN, c3, c4, not_false_eq_true, not_true_eq_false, and_self, and_true, true_and, and_false, false_and, ↓reduceIte]; done) | (simp only [odF, bI, zcN, c3, c4, not_false_eq_true, not_true_eq_false, and_self, and_true, true_and, and_false, false_and, ↓reduceIte]; rfl) | (simp [odF, bI, zcN, c3, c4]; done) | rfl⟩)
    · refine v_iload_n C dX4_odds_15 2 rfl ?_
      refine v_iconst C 1 dX4_odds_16 (by decide) ?_
      refine v_icmp_le C 24 dX4_odds_17 (by decide) (fun c5 => ?_) (fun c5 => ?_)
      · refine v_aload_n C dX4_odds_24 0 rfl ?_
        refine v_callMv C l_X4_148 (m_X4_prepareByNumbers a nc tr fa si (nI nj) (nI wl) (nI s0) (nI st) (nI nr) kd ln lw ss sx un en se tk od (by assumption)) (by decide) dX4_odds_25 [0, 7, 8, 2, 3, 4] [1, 5, 6, 9, 10, 11, 12, 13, 14] (wr := [ia (a 5) cI 5 bo, ia (a 33) cI 5 ve, ia (a 34) cI 6 vd, ia (a 21) cI 5 ag, ia (a 22) cI 5 de, ia (a 23) cI 5 ta, ia (a 24) cI 5 we, ia (a 25) cI 8 rC, ia (a 26) cI 8 rH]) (by decide) rfl rfl (by decide) (by decide) 0 rfl rfl rfl (rest := []) rfl (Nat.le_of_ble_eq_true rfl) (by decide) (fun w6 h7 => ?_)
        subst h7
        refine v_ws0 [ia (a 5) cI 5 bo, ia (a 33) cI 5 ve, ia (a 34) cI 6 vd, ia (a 21) cI 5 ag, ia (a 22) cI 5 de, ia (a 23) cI 5 ta, ia (a 24) cI 5 we, ia (a 25) cI 8 rC, ia (a 26) cI 8 rH, oC a tr fa, oK a si (nI nj) (nI nc) (nI wl) (nI s0) (nI st) (nI nr), ia (a 20) cI 5 kd, oT a (nI nc) (nI wl) (nI s0) (nI st) (nI s0) en se, ia (a 31) cI 5 kd, ia (a 32) cI 5 (tbF nI od nc)] rfl ?_
        refine v_iconst C 1 dX4_odds_28 (by decide) ?_
        refine v_aload_n C dX4_odds_29 0 rfl ?_
        refine v_get C f_X4_27 dX4_odds_30 9 rfl rfl ?_
        refine v_get C f_X4_151 dX4_odds_33 10 rfl rfl ?_
        refine v_ishl C dX4_odds_36 ?_
        refine v_eqi (nI (2 ^ nj)) (raw_sh nj (by omega)) ?_
        refine v_istore_n C [(3, .int (nI (2 ^ nj))), (0, .ref (a 0)), (1, .int (nI cN)), (2, .int x)] dX4_odds_37 (by decide) rfl ?_
        refine v_iconst C 0 dX4_odds_38 (by decide) ?_
        refine v_istore C [(4, .int 0), (3, .int (nI (2 ^ nj))), (0, .ref (a 0)), (1, .int (nI cN)), (2, .int x)] dX4_odds_39 (by decide) rfl ?_
        refine v_iconst C 0 dX4_odds_41 (by decide) ?_
        refine v_istore C [(5, .int 0), (4, .int 0), (3, .int (nI (2 ^ nj))), (0, .ref (a 0)), (1, .int (nI cN)), (2, .int x)] dX4_odds_42 (by decide) rfl ?_
        refine v_perm (ws' := [oC a tr fa, ia (a 5) cI 5 bo, oT a (nI nc) (nI wl) (nI s0) (nI st) (nI s0) en se, ia (a 31) cI 5 kd, ia (a 32) cI 5 (tbF nI od nc), ia (a 33) cI 5 ve, ia (a 34) cI 6 vd, oK a si (nI nj) (nI nc) (nI wl) (nI s0) (nI st) (nI nr), ia (a 20) cI 5 kd, ia (a 21) cI 5 ag, ia (a 22) cI 5 de, ia (a 23) cI 5 ta, ia (a 24) cI 5 we, ia (a 25) cI 8 rC, ia (a 26) cI 8 rH]) [9, 0, 12, 13, 14, 1, 2, 10, 11, 3, 4, 5, 6, 7, 8] (by decide) rfl ?_
        have lp : ∀ (n_10 : Nat) (y : Nat) (u : Nat) (sx1 : Int32) (ve1 : Nat → Int32) (vd1 : Nat → Int32) (un1 : Int32) (en1 : Int32) (se1 : Int32), 2 ^ nj - y < n_10 → (y ≤ 2 ^ nj) → (ct ((fun cx yx => decide ((sitS nj kd ag yx wl dn ta we si s0 (fun p => p) nc).1 cx = 1)) cN) y = u) → V zp l ze (rmOf 4 98) zs zm [.ref (a 0), .int (nI cN), .int x].toArray zb zt zc D (IM zA zs) (QMl zb [.ref (a 0), .int (nI cN), .int x].toArray zs D cI cB cS [oC a tr fa, ia (a 5) cI 5 bo, oT a ln lw ss sx un en se, ia (a 31) cI 5 tk, ia (a 32) cI 5 od, ia (a 33) cI 5 ve, ia (a 34) cI 6 vd, oK a si (nI nj) (nI nc) (nI wl) (nI s0) (nI st) (nI nr), ia (a 20) cI 5 kd, ia (a 21) cI 5 ag, ia (a 22) cI 5 de, ia (a 23) cI 5 ta, ia (a 24) cI 5 we, ia (a 25) cI 8 rC, ia (a 26) cI 8 rH] zz (fun r w => ∃ (ln' : Int32) (lw' : Int32) (ss' : Int32) (sx' : Int32) (un' : Int32) (en' : Int32) (se' : Int32) (tk' : Nat → Int32) (od' : Nat → Int32) (ve' : Nat → Int32) (vd' : Nat → Int32) (bo' : Nat → Int32), r = odF nj nc (fun cx yx => decide ((sitS nj kd ag yx wl dn ta we si s0 (fun p => p) nc).1 cx = 1)) (nI cN) x ∧ w = [oC a tr fa, ia (a 5) cI 5 bo', oT a ln' lw' ss' sx' un' en' se', ia (a 31) cI 5 tk', ia (a 32) cI 5 od', ia (a 33) cI 5 ve', ia (a 34) cI 6 vd', oK a si (nI nj) (nI nc) (nI wl) (nI s0) (nI st) (nI nr), ia (a 20) cI 5 kd, ia (a 21) cI 5 ag, ia (a 22) cI 5 de, ia (a 23) cI 5 ta, ia (a 24) cI 5 we, ia (a 25) cI 8 rC, ia (a 26) cI 8 rH])) 0 0 6 [oC a tr fa, ia (a 5) cI 5 bo, oT a (nI nc) (nI wl) (nI s0) sx1 un1 en1 se1, ia (a 31) cI 5 kd, ia (a 32) cI 5 (tbF nI od nc), ia (a 33) cI 5 ve1, ia (a 34) cI 6 vd1, oK a si (nI nj) (nI nc) (nI wl) (nI s0) (nI st) (nI nr), ia (a 20) cI 5 kd, ia (a 21) cI 5 ag, ia (a 22) cI 5 de, ia (a 23) cI 5 ta, ia (a 24) cI 5 we, ia (a 25) cI 8 rC, ia (a 26) cI 8 rH] [(5, .int (nI y)), (4, .int (nI u)), (3, .int (nI (2 ^ nj))), (0, .ref (a 0)), (1, .int (nI cN)), (2, .int x)] 44 [] := by
          intro n_10
          induction n_10 with
          | zero => intro y u sx1 ve1 vd1 un1 en1 se1 b9; exact absurd b9 (by omega)
          | succ n_10 ihn_10 =>
            intro y u sx1 ve1 vd1 un1 en1 se1 b9 hy hu
            refine v_iload C dX4_odds_44 0 rfl ?_
            refine v_iload_n C dX4_odds_46 2 rfl ?_
            refine v_icmp_ge C 95 dX4_odds_47 (by decide) (fun c11 => ?_) (fun c11 => ?_)
            · have nc11 : (2 ^ nj) ≤ y := nI_leD c11 (by omega)
              have hye : y = 2 ^ nj := by omega
              rw [hye] at hu
              have hule := ct_le ((fun cx yx => decide ((sitS nj kd ag yx wl dn ta we si s0 (fun p => p) nc).1 cx = 1)) cN) (2 ^ nj)
              have lq : ∀ (n_13 : Nat) (u2 : Nat) (l2 : Nat) (fu : Nat), l2 < n_13 → (u2 ≤ 32) → (l2 ≤ 32) → (l2 < 2 ^ fu) → (hvN 6 (u, 2 ^ nj) = hvN fu (u2, l2)) → V zp l ze (rmOf 4 98) zs zm [.ref (a 0), .int (nI cN), .int x].toArray zb zt zc D (IM zA zs) (QMl zb [.ref (a 0), .int (nI cN), .int x].toArray zs D cI cB cS [oC a tr fa, ia (a 5) cI 5 bo, oT a ln lw ss sx un en se, ia (a 31) cI 5 tk, ia (a 32) cI 5 od, ia (a 33) cI 5 ve, ia (a 34) cI 6 vd, oK a si (nI nj) (nI nc) (nI wl) (nI s0) (nI st) (nI nr), ia (a 20) cI 5 kd, ia (a 21) cI 5 ag, ia (a 22) cI 5 de, ia (a 23) cI 5 ta, ia (a 24) cI 5 we, ia (a 25) cI 8 rC, ia (a 26) cI 8 rH] zz (fun r w => ∃ (ln' : Int32) (lw' : Int32) (ss' : Int32) (sx' : Int32) (un' : Int32) (en' : Int32) (se' : Int32) (tk' : Nat → Int32) (od' : Nat → Int32) (ve' : Nat → Int32) (vd' : Nat → Int32) (bo' : Nat → Int32), r = odF nj nc (fun cx yx => decide ((sitS nj kd ag yx wl dn ta we si s0 (fun p => p) nc).1 cx = 1)) (nI cN) x ∧ w = [oC a tr fa, ia (a 5) cI 5 bo', oT a ln' lw' ss' sx' un' en' se', ia (a 31) cI 5 tk', ia (a 32) cI 5 od', ia (a 33) cI 5 ve', ia (a 34) cI 6 vd', oK a si (nI nj) (nI nc) (nI wl) (nI s0) (nI st) (nI nr), ia (a 20) cI 5 kd, ia (a 21) cI 5 ag, ia (a 22) cI 5 de, ia (a 23) cI 5 ta, ia (a 24) cI 5 we, ia (a 25) cI 8 rC, ia (a 26) cI 8 rH])) 0 0 6 [oC a tr fa, ia (a 5) cI 5 bo, oT a (nI nc) (nI wl) (nI s0) sx1 un1 en1 se1, ia (a 31) cI 5 kd, ia (a 32) cI 5 (tbF nI od nc), ia (a 33) cI 5 ve1, ia (a 34) cI 6 vd1, oK a si (nI nj) (nI nc) (nI wl) (nI s0) (nI st) (nI nr), ia (a 20) cI 5 kd, ia (a 21) cI 5 ag, ia (a 22) cI 5 de, ia (a 23) cI 5 ta, ia (a 24) cI 5 we, ia (a 25) cI 8 rC, ia (a 26) cI 8 rH] [(4, .int (nI u2)), (3, .int (nI l2)), (0, .ref (a 0)), (1, .int (nI cN)), (2, .int x)] 95 [] := by
                intro n_13
                induction n_13 with
                | zero => intro u2 l2 fu b12; exact absurd b12 (by omega)
                | succ n_13 ihn_13 =>
                  intro u2 l2 fu b12 hu2 hl2 hfu hh
                  refine v_iload_n C dX4_odds_95 1 rfl ?_
                  refine v_iconst C 1 dX4_odds_96 (by decide) ?_
                  refine v_icmp_le C 120 dX4_odds_97 (by decide) (fun c14 => ?_) (fun c14 => ?_)
                  · have nc14 : l2 ≤ 1 := nI_leD c14 (by omega)
                    refine v_iload_n C dX4_odds_120 4 rfl ?_
                    refine v_if_ne C 130 dX4_odds_121 (by decide) (fun c15 => ?_) (fun c15 => ?_)
                    · refine v_iload_n C dX4_odds_130 1 rfl ?_
                      refine v_i2l C dX4_odds_131 ?_
                      exact v_retl C hA dX4_odds_132 (⟨_, _, _, _, _, _, _, _, _, _, _, _, by rw [nI_l (by omega)]; simp only [odF, zcN, c3, c4, c5, c11, nc11, Nat.not_lt.mpr nc11, c14, nc14, Nat.not_lt.mpr nc14, c15, not_false_eq_true, not_true_eq_false, and_self, and_true, true_and, and_false, false_and, ↓reduceIte]; first | (rw [hu, hh, hvN_stop (by omega)]; done) | (simp only [hu, hh, hvN_stop (show ¬ (1 < (u2, l2).2 ∧ (u2, l2).1 % 2 = 0) by simp only []; omega)]; try rfl), rfl⟩)
                    · refine v_iload C dX4_odds_124 0 rfl ?_
                      refine v_i2l C dX4_odds_126 ?_
                      refine v_goto C 132 dX4_odds_127 (by decide) ?_
                      exact v_retl C hA dX4_odds_132 (⟨_, _, _, _, _, _, _, _, _, _, _, _, by rw [nI_l (by omega)]; simp only [odF, zcN, c3, c4, c5, c11, nc11, Nat.not_lt.mpr nc11, c14, nc14, Nat.not_lt.mpr nc14, c15, not_false_eq_true, not_true_eq_false, and_self, and_true, true_and, and_false, false_and, ↓reduceIte]; first | (rw [hu, hh, hvN_stop (by omega)]; done) | (simp only [hu, hh, hvN_stop (show ¬ (1 < (u2, l2).2 ∧ (u2, l2).1 % 2 = 0) by simp only []; omega)]; try rfl), rfl⟩)
                  · have nc14 : 1 < l2 := nI_ltD c14 (by omega)
                    refine v_iload C dX4_odds_100 0 rfl ?_
                    refine v_iconst C 2 dX4_odds_102 (by decide) ?_
                    refine v_irem C dX4_odds_103 (by decide) ?_
                    refine v_eqi (nI (u2 % 2)) (pk_rem (d := 2) (by omega) (by decide) (by decide)) ?_
                    refine v_if_ne C 120 dX4_odds_104 (by decide) (fun c16 => ?_) (fun c16 => ?_)
                    · have nc16 : (u2 % 2) ≠ 0 := fun q => c16 (by rw [q] <;> rfl)
                      refine v_iload_n C dX4_odds_120 4 rfl ?_
                      refine v_if_ne C 130 dX4_odds_121 (by decide) (fun c17 => ?_) (fun c17 => ?_)
                      · refine v_iload_n C dX4_odds_130 1 rfl ?_
                        refine v_i2l C dX4_odds_131 ?_
                        exact v_retl C hA dX4_odds_132 (⟨_, _, _, _, _, _, _, _, _, _, _, _, by rw [nI_l (by omega)]; simp only [odF, zcN, c3, c4, c5, c11, nc11, Nat.not_lt.mpr nc11, c14, nc14, Nat.not_le.mpr nc14, c16, nc16, nc16, c17, not_false_eq_true, not_true_eq_false, and_self, and_true, true_and, and_false, false_and, ↓reduceIte]; first | (rw [hu, hh, hvN_stop (by omega)]; done) | (simp only [hu, hh, hvN_stop (show ¬ (1 < (u2, l2).2 ∧ (u2, l2).1 % 2 = 0) by simp only []; omega)]; try rfl), rfl⟩)
                      · refine v_iload C dX4_odds_124 0 rfl ?_
                        refine v_i2l C dX4_odds_126 ?_
                        refine v_goto C 132 dX4_odds_127 (by decide) ?_
                        exact v_retl C hA dX4_odds_132 (⟨_, _, _, _, _, _, _, _, _, _, _, _, by rw [nI_l (by omega)]; simp only [odF, zcN, c3, c4, c5, c11, nc11, Nat.not_lt.mpr nc11, c14, nc14, Nat.not_le.mpr nc14, c16, nc16, nc16, c17, not_false_eq_true, not_true_eq_false, and_self, and_true, true_and, and_false, false_and, ↓reduceIte]; first | (rw [hu, hh, hvN_stop (by omega)]; done) | (simp only [hu, hh, hvN_stop (show ¬ (1 < (u2, l2).2 ∧ (u2, l2).1 % 2 = 0) by simp only []; omega)]; try rfl), rfl⟩)
                    · have nc16 : (u2 % 2) = 0 := nI_eqP c16 (by omega) (by omega)
                      refine v_iload C dX4_odds_107 0 rfl ?_
                      refine v_iconst C 2 dX4_odds_109 (by decide) ?_
                      refine v_idiv C dX4_odds_110 (by decide) ?_
                      refine v_eqi (nI (u2 / 2)) (pk_div (d := 2) (by omega) (by decide) (by decide)) ?_
                      refine v_istore C [(4, .int (nI (u2 / 2))), (3, .int (nI l2)), (0, .ref (a 0)), (1, .int (nI cN)), (2, .int x)] dX4_odds_111 (by decide) rfl ?_
                      refine v_iload_n C dX4_odds_113 1 rfl ?_
                      refine v_iconst C 2 dX4_odds_114 (by decide) ?_
                      refine v_idiv C dX4_odds_115 (by decide) ?_
                      refine v_eqi (nI (l2 / 2)) (pk_div (d := 2) (by omega) (by decide) (by decide)) ?_
                      refine v_istore_n C [(3, .int (nI (l2 / 2))), (4, .int (nI (u2 / 2))), (0, .ref (a 0)), (1, .int (nI cN)), (2, .int x)] dX4_odds_116 (by decide) rfl ?_
                      refine v_goto C 95 dX4_odds_117 (by decide) ?_
                      refine v_loc [1, 0, 2, 3, 4] (lv' := [(4, .int (nI (u2 / 2))), (3, .int (nI (l2 / 2))), (0, .ref (a 0)), (1, .int (nI cN)), (2, .int x)]) rfl ?_
                      exact ihn_13 (u2 / 2) (l2 / 2) (fu - 1) (by omega) (by omega) (by omega) (half_fu (by omega) hfu) (by rw [hh]; exact hv_step (half_pos (by omega) hfu) (by omega) (by omega))
              refine v_loc [1, 2, 3, 4, 5] (lv' := [(4, .int (nI u)), (3, .int (nI (2 ^ nj))), (0, .ref (a 0)), (1, .int (nI cN)), (2, .int x)]) rfl ?_
              exact lq ((2 ^ nj) + 1) u (2 ^ nj) 6 (by omega) (by omega) (by omega) (by omega) rfl
            · have nc11 : y < (2 ^ nj) := nI_ltD c11 (by omega)
              refine v_aload_n C dX4_odds_50 3 rfl ?_
              refine v_get C f_X4_36 dX4_odds_51 0 rfl rfl ?_
              refine v_iload C dX4_odds_54 0 rfl ?_
              refine v_put C p_X4_181 [oC a tr fa, ia (a 5) cI 5 bo, oT a (nI nc) (nI wl) (nI s0) (nI y) un1 en1 se1, ia (a 31) cI 5 kd, ia (a 32) cI 5 (tbF nI od nc), ia (a 33) cI 5 ve1, ia (a 34) cI 6 vd1, oK a si (nI nj) (nI nc) (nI wl) (nI s0) (nI st) (nI nr), ia (a 20) cI 5 kd, ia (a 21) cI 5 ag, ia (a 22) cI 5 de, ia (a 23) cI 5 ta, ia (a 24) cI 5 we, ia (a 25) cI 8 rC, ia (a 26) cI 8 rH] dX4_odds_56 2 rfl rfl rfl (Nat.le_of_ble_eq_true rfl) rfl ?_
              refine v_aload_n C dX4_odds_59 3 rfl ?_
              refine v_get C f_X4_36 dX4_odds_60 0 rfl rfl ?_
              refine v_callMv C l_X4_124 (m_X2_hold a s0 y wl nj nc nc (fun p => p) dn un1 en1 se1 kd (tbF nI od nc) ve1 vd1 si (nI nc) (nI wl) (nI s0) (nI st) (nI nr) ag de ta we (by assumption) (by omega) (by assumption) (by assumption) (by assumption) hnc (by assumption) (fun p hp => ⟨tbF_in hp, hp⟩) (by assumption)) (by decide) dX4_odds_63 [2, 3, 4, 5, 6, 7, 9, 10, 11, 12] [0, 1, 8, 13, 14] (wr := [oC a tr fa, ia (a 5) cI 5 bo, ia (a 20) cI 5 kd, ia (a 25) cI 8 rC, ia (a 26) cI 8 rH]) (by decide) rfl rfl (by decide) (by decide) 2 rfl rfl rfl (rest := []) rfl (Nat.le_of_ble_eq_true rfl) (by decide) (fun w18 h19 => ?_)
              subst h19
              refine v_ws0 [oC a tr fa, ia (a 5) cI 5 bo, ia (a 20) cI 5 kd, ia (a 25) cI 8 rC, ia (a 26) cI 8 rH, oT a (nI nc) (nI wl) (nI s0) (nI y) (nI (sitS nj kd ag y wl dn ta we si s0 (fun p => p) nc).2.2.1) ((sitS nj kd ag y wl dn ta we si s0 (fun p => p) nc).2.2.2.1) ((sitS nj kd ag y wl dn ta we si s0 (fun p => p) nc).2.2.2.2.1), ia (a 31) cI 5 kd, ia (a 32) cI 5 (tbF nI od nc), ia (a 33) cI 5 ((sitS nj kd ag y wl dn ta we si s0 (fun p => p) nc).1), ia (a 34) cI 6 ((sitS nj kd ag y wl dn ta we si s0 (fun p => p) nc).2.1), oK a si (nI nj) (nI nc) (nI wl) (nI s0) (nI st) (nI nr), ia (a 21) cI 5 ag, ia (a 22) cI 5 de, ia (a 23) cI 5 ta, ia (a 24) cI 5 we] rfl ?_
              refine v_iload C dX4_odds_66 1 rfl ?_
              refine v_aload_n C dX4_odds_68 3 rfl ?_
              refine v_get C f_X4_36 dX4_odds_69 0 rfl rfl ?_
              refine v_get C f_X4_127 dX4_odds_72 5 rfl rfl ?_
              refine v_iload_n C dX4_odds_75 4 rfl ?_
              refine v_ialdN C dX4_odds_76 8 rfl cN rfl (by omega) (by decide) ?_
              refine v_iconst C 1 dX4_odds_77 (by decide) ?_
              refine v_icmp_ne C 85 dX4_odds_78 (by decide) (fun c21 => ?_) (fun c21 => ?_)
              · refine v_iconst C 0 dX4_odds_85 (by decide) ?_
                refine v_iadd C dX4_odds_86 ?_
                refine v_eqi (nI u) (Int32.add_zero _) ?_
                refine v_istore C [(4, .int (nI u)), (5, .int (nI y)), (3, .int (nI (2 ^ nj))), (0, .ref (a 0)), (1, .int (nI cN)), (2, .int x)] dX4_odds_87 (by decide) rfl ?_
                refine v_iinc C (nI (y + 1)) [(5, .int (nI (y + 1))), (4, .int (nI u)), (3, .int (nI (2 ^ nj))), (0, .ref (a 0)), (1, .int (nI cN)), (2, .int x)] 1 dX4_odds_89 rfl (nI_inc _) (by decide) rfl ?_
                refine v_goto C 44 dX4_odds_92 (by decide) ?_
                refine v_perm (ws' := [oC a tr fa, ia (a 5) cI 5 bo, oT a (nI nc) (nI wl) (nI s0) (nI y) (nI (sitS nj kd ag y wl dn ta we si s0 (fun p => p) nc).2.2.1) ((sitS nj kd ag y wl dn ta we si s0 (fun p => p) nc).2.2.2.1) ((sitS nj kd ag y wl dn ta we si s0 (fun p => p) nc).2.2.2.2.1), ia (a 31) cI 5 kd, ia (a 32) cI 5 (tbF nI od nc), ia (a 33) cI 5 ((sitS nj kd ag y wl dn ta we si s0 (fun p => p) nc).1), ia (a 34) cI 6 ((sitS nj kd ag y wl dn ta we si s0 (fun p => p) nc).2.1), oK a si (nI nj) (nI nc) (nI wl) (nI s0) (nI st) (nI nr), ia (a 20) cI 5 kd, ia (a 21) cI 5 ag, ia (a 22) cI 5 de, ia (a 23) cI 5 ta, ia (a 24) cI 5 we, ia (a 25) cI 8 rC, ia (a 26) cI 8 rH]) [0, 1, 5, 6, 7, 8, 9, 10, 2, 11, 12, 13, 14, 3, 4] (by decide) rfl ?_
                exact ihn_10 (y + 1) u (nI y) ((sitS nj kd ag y wl dn ta we si s0 (fun p => p) nc).1) ((sitS nj kd ag y wl dn ta we si s0 (fun p => p) nc).2.1) (nI (sitS nj kd ag y wl dn ta we si s0 (fun p => p) nc).2.2.1) ((sitS nj kd ag y wl dn ta we si s0 (fun p => p) nc).2.2.2.1) ((sitS nj kd ag y wl dn ta we si s0 (fun p => p) nc).2.2.2.2.1) (by omega) (by omega) (by rw [ct, hu]; simp [c21])
              · refine v_iconst C 1 dX4_odds_81 (by decide) ?_
                refine v_goto C 86 dX4_odds_82 (by decide) ?_
                refine v_iadd C dX4_odds_86 ?_
                refine v_eqi (nI (u + 1)) (nI_1 u) ?_
                refine v_istore C [(4, .int (nI (u + 1))), (5, .int (nI y)), (3, .int (nI (2 ^ nj))), (0, .ref (a 0)), (1, .int (nI cN)), (2, .int x)] dX4_odds_87 (by decide) rfl ?_
                refine v_iinc C (nI (y + 1)) [(5, .int (nI (y + 1))), (4, .int (nI (u + 1))), (3, .int (nI (2 ^ nj))), (0, .ref (a 0)), (1, .int (nI cN)), (2, .int x)] 1 dX4_odds_89 rfl (nI_inc _) (by decide) rfl ?_
                refine v_goto C 44 dX4_odds_92 (by decide) ?_
                refine v_perm (ws' := [oC a tr fa, ia (a 5) cI 5 bo, oT a (nI nc) (nI wl) (nI s0) (nI y) (nI (sitS nj kd ag y wl dn ta we si s0 (fun p => p) nc).2.2.1) ((sitS nj kd ag y wl dn ta we si s0 (fun p => p) nc).2.2.2.1) ((sitS nj kd ag y wl dn ta we si s0 (fun p => p) nc).2.2.2.2.1), ia (a 31) cI 5 kd, ia (a 32) cI 5 (tbF nI od nc), ia (a 33) cI 5 ((sitS nj kd ag y wl dn ta we si s0 (fun p => p) nc).1), ia (a 34) cI 6 ((sitS nj kd ag y wl dn ta we si s0 (fun p => p) nc).2.1), oK a si (nI nj) (nI nc) (nI wl) (nI s0) (nI st) (nI nr), ia (a 20) cI 5 kd, ia (a 21) cI 5 ag, ia (a 22) cI 5 de, ia (a 23) cI 5 ta, ia (a 24) cI 5 we, ia (a 25) cI 8 rC, ia (a 26) cI 8 rH]) [0, 1, 5, 6, 7, 8, 9, 10, 2, 11, 12, 13, 14, 3, 4] (by decide) rfl ?_
                exact ihn_10 (y + 1) (u + 1) (nI y) ((sitS nj kd ag y wl dn ta we si s0 (fun p => p) nc).1) ((sitS nj kd ag y wl dn ta we si s0 (fun p => p) nc).2.1) (nI (sitS nj kd ag y wl dn ta we si s0 (fun p => p) nc).2.2.1) ((sitS nj kd ag y wl dn ta we si s0 (fun p => p) nc).2.2.2.1) ((sitS nj kd ag y wl dn ta we si s0 (fun p => p) nc).2.2.2.2.1) (by omega) (by omega) (by rw [ct, hu]; simp [c21])
        exact lp (2 ^ nj - 0 + 1) 0 0 (nI st) ve vd (nI s0) en se (by omega) (by omega) rfl
      · refine v_ldc2 C k_X4_179 dX4_odds_20 ?_
        exact v_retl C hA dX4_odds_23 (⟨_, _, _, _, _, _, _, _, _, _, _, _, by first | (simp only [odF, bI, zcN, c3, c4, c5, not_false_eq_true, not_true_eq_false, and_self, and_true, true_and, and_false, false_and, ↓reduceIte]; done) | (simp only [odF, bI, zcN, c3, c4, c5, not_false_eq_true, not_true_eq_false, and_self, and_true, true_and, and_false, false_and, ↓reduceIte]; rfl) | (simp [odF, bI, zcN, c3, c4, c5]; done) | rfl, by first | (simp only [odF, bI, zcN, c3, c4, c5, not_false_eq_true, not_true_eq_false, and_self, and_true, true_and, and_false, false_and, ↓reduceIte]; done) | (simp only [odF, bI, zcN, c3, c4, c5, not_false_eq_true, not_true_eq_false, and_self, and_true, true_and, and_false, false_and, ↓reduceIte]; rfl) | (simp [odF, bI, zcN, c3, c4, c5]; done) | rfl⟩)
  · refine v_eqi 0 (bI_f c3) ?_
    refine v_if_eq C 20 dX4_odds_8 (by decide) (fun _ => ?_) (fun h => absurd h (by decide))
    refine v_ldc2 C k_X4_179 dX4_odds_20 ?_
    exact v_retl C hA dX4_odds_23 (⟨_, _, _, _, _, _, _, _, _, _, _, _, by first | (simp only [odF, bI, c3, not_false_eq_true, not_true_eq_false, and_self, and_true, true_and, and_false, false_and, ↓reduceIte]; done) | (simp only [odF, bI, c3, not_false_eq_true, not_true_eq_false, and_self, and_true, true_and, and_false, false_and, ↓reduceIte]; rfl) | (simp [odF, bI, c3]; done) | rfl, by first | (simp only [odF, bI, c3, not_false_eq_true, not_true_eq_false, and_self, and_true, true_and, and_false, false_and, ↓reduceIte]; done) | (simp only [odF, bI, c3, not_false_eq_true, not_true_eq_false, and_self, and_true, true_and, and_false, false_and, ↓reduceIte]; rfl) | (simp [odF, bI, c3]; done) | rfl⟩)
