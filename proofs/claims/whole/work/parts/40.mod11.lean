def cw (f : Nat → Int32) (S : Nat) : Nat → Int32 := fun p => f (S + p)
def RS (f : Nat → Int32) (N p : Nat) : Prop := p ≤ N ∧ ffF f N = ffR f N (N - p) p
theorem RS_0 {f : Nat → Int32} {N : Nat} : RS f N 0 := ⟨by omega, rfl⟩
theorem RS_go {f : Nat → Int32} {N p : Nat} (h : RS f N p) (hp : p < N) (hg : goB f p (cfN f p) = true) : RS f N (p + 1) := ⟨by omega, by rw [h.2, ffR_go hp hg]⟩
theorem RS_fault {f : Nat → Int32} {N p : Nat} (h : RS f N p) (hg : ¬ (p < N ∧ goB f p (cfN f p) = true)) (hw : p = N → ¬ whB f N = true) : ffF f N = some p := by
  by_cases e : p = N
  · subst e
    rw [h.2, Nat.sub_self, ffR, if_neg (hw rfl)]
  · have hp : p < N := by have := h.1; omega
    rw [h.2, ffR_no hp (fun q => hg ⟨hp, q⟩)]
theorem wh_none {f : Nat → Int32} {N p : Nat} (h : cfN f p = none) (e : p = N) : ¬ whB f N = true := by
  subst e
  rw [whB, h]
  simp [whC]
theorem go_0 (f : Nat → Int32) (cf : Option Nat) : goB f 0 cf = decide (f 0 = 107) := by simp [goB]
theorem go_1 (f : Nat → Int32) (cf : Option Nat) : goB f 1 cf = dgB (f 1) 0 6 := by simp [goB, gmB]
theorem go_j0 (f : Nat → Int32) (j : Nat) : goB f (3 + 3 * j) none = ((decide (f (3 + 3 * j) = 44) && decide (j < 5)) || (decide (f (3 + 3 * j) = 59) && decide (0 < j))) := by
  unfold goB gjB
  rw [if_neg (by omega), if_neg (by omega)]
  dsimp only
  rw [if_pos (by omega), show (3 + 3 * j - 3) / 3 = j by omega]
theorem go_j1 (f : Nat → Int32) (j : Nat) : goB f (3 + 3 * j + 1) none = !decide (kdF (f (3 + 3 * j + 1)) = -9) := by
  unfold goB gjB
  rw [if_neg (by omega), if_neg (by omega)]
  dsimp only
  rw [if_neg (by omega), if_pos (by omega)]
theorem go_j2 (f : Nat → Int32) (j : Nat) : goB f (3 + 3 * j + 1 + 1) none = dgB (f (3 + 3 * j + 1 + 1)) 1 9 := by
  unfold goB gjB
  rw [if_neg (by omega), if_neg (by omega)]
  dsimp only
  rw [if_neg (by omega), if_neg (by omega)]
theorem go_cs {f : Nat → Int32} {F e : Nat} (hF : 3 ≤ F) : goB f (F + 4 * e) (some F) = (decide (f (F + 4 * e) = 59) && decide (e < 5)) := by
  unfold goB gcB
  rw [if_neg (by omega), if_neg (by omega)]
  dsimp only
  rw [if_pos (by omega), show (F + 4 * e - F) / 4 = e by omega]
theorem go_c0 {f : Nat → Int32} {F e : Nat} (hF : 3 ≤ F) : goB f (F + 4 * e + 1) (some F) = dgB (f (F + 4 * e + 1)) 0 5 := by
  unfold goB gcB
  rw [if_neg (by omega), if_neg (by omega)]
  dsimp only
  rw [if_neg (by omega), if_pos (by omega)]
theorem go_c1 {f : Nat → Int32} {F e : Nat} (hF : 3 ≤ F) : goB f (F + 4 * e + 1 + 1) (some F) = dgB (f (F + 4 * e + 1 + 1)) 1 9 := by
  unfold goB gcB
  rw [if_neg (by omega), if_neg (by omega)]
  dsimp only
  rw [if_neg (by omega), if_neg (by omega)]
theorem go_c2 {f : Nat → Int32} {F e : Nat} (hF : 3 ≤ F) : goB f (F + 4 * e + 1 + 2) (some F) = dgB (f (F + 4 * e + 1 + 2)) 1 9 := by
  unfold goB gcB
  rw [if_neg (by omega), if_neg (by omega)]
  dsimp only
  rw [if_neg (by omega), if_neg (by omega)]
theorem kd_ne {x : Int32} (h : ¬ kdF x = -9) : ¬ x = 59 := by
  rintro rfl
  exact h (by decide)
theorem wh_mid {f : Nat → Int32} {N p F : Nat} (h : cfN f p = some F) (hm : ¬ (p - F) % 4 = 0) (e : p = N) : ¬ whB f N = true := by
  subst e
  rw [whB, h]
  simp [whC, hm]
theorem dg_ne {x : Int32} {d : Nat} (h : x - 48 = nI d) (hd : d ≤ 9) : ¬ x = 59 := by
  rintro rfl
  have : nI 11 = nI d := by rw [← h]; decide
  have := nI_eqP this (by omega) (by omega)
  omega
theorem x48 {x : Int32} {d : Nat} (h : x - 48 = nI d) : x = nI (48 + d) := by
  have : x = (x - 48) + 48 := by rw [Int32.sub_add_cancel]
  rw [this, h, show (48 : Int32) = nI 48 from rfl, nI_add, Nat.add_comm]
theorem tm_eq {f : Nat → Int32} {S a c : Nat} (h1 : f (S + 1) - 48 = nI a) (h2 : f (S + 2) - 48 = nI c) : tmF (cw f S) = 10 * nI a + nI c := by
  show 10 * (f (S + 1) - 48) + (f (S + 2) - 48) = _
  rw [h1, h2]
theorem mi_tab : ∀ d, d < 7 → ∀ o, o < 10 → (dgB (nI (48 + o)) 0 9 && (!decide (10 * nI d + nI o < 5) && !decide (60 < 10 * nI d + nI o))) = dgB (nI (48 + o)) (if d = 0 then 5 else 0) (if d = 6 then 0 else 9) := by decide +kernel
theorem dg_sub {x : Int32} {d : Nat} (h : dgB x (if d = 0 then 5 else 0) (if d = 6 then 0 else 9) = true) : dgB x 0 9 = true := by
  have key : ∀ a c : Nat, a < 10 → c < 10 → dgB x (nI a) (nI c) = true → dgB x 0 9 = true := by
    intro a c ha hc q
    obtain ⟨o, -, o2, o3⟩ := dg_nat ha hc q
    rw [x48 o3]
    have t : ∀ o, o < 10 → dgB (nI (48 + o)) 0 9 = true := by decide +kernel
    exact t o (by omega)
  by_cases e0 : d = 0
  · rw [if_pos e0, if_neg (by omega)] at h
    exact key 5 9 (by omega) (by omega) h
  · by_cases e6 : d = 6
    · rw [if_neg e0, if_pos e6] at h
      exact key 0 0 (by omega) (by omega) h
    · rw [if_neg e0, if_neg e6] at h
      exact key 0 9 (by omega) (by omega) h
theorem mi_iff {f : Nat → Int32} {cf : Option Nat} {d : Nat} (h1 : f 1 - 48 = nI d) (hd : d ≤ 6) : goB f 2 cf = true ↔ dgB (f 2) (if d = 0 then 5 else 0) (if d = 6 then 0 else 9) = true := by
  have hg : goB f 2 cf = (dgB (f 2) 0 9 && (!decide (tmF f < 5) && !decide (60 < tmF f))) := by simp [goB, gmB]
  rw [hg]
  by_cases e : dgB (f 2) 0 9 = true
  · obtain ⟨o, -, o2, o3⟩ := dg_nat (a := 0) (b := 9) (by omega) (by omega) e
    have ht : tmF f = 10 * nI d + nI o := by unfold tmF; rw [h1, o3]
    rw [ht, x48 o3, mi_tab d (by omega) o (by omega)]
  · constructor
    · intro q
      simp only [Bool.and_eq_true] at q
      exact absurd q.1 e
    · intro q
      exact absurd (dg_sub q) e
set_option maxHeartbeats 4000000 in
set_option maxRecDepth 100000 in
theorem m_X5_digit {l : Launch} {D : va_G} {cI cB cS : ClassId} (b : Nat → Nat) (S N p : Nat) (a c : Nat) (n_fa : Int32) (n_tr : Int32) (n_mi : Int32) (n_ju : Int32) (n_co : Int32) (n_cr : Int32) (n_rm : Int32) (n_rj : Int32) (n_rc : Int32) (n_nw : Int32) (n_ov : Int32) (n_rl : Int32) (n_rd : Int32) (n_ce : Nat → Int32) (le : Int32) (mo : Int32) (hSN : S + N ≤ 240) (hpN : p ≤ N) (ha : a < 10) (hc : c < 10) (hle : le = nI a) (hmo : mo = nI c) : Mi l yX5_digit cX5_digit 4 (some .int) 1 22 D cI cB cS [.ref (b 0), .int (nI (S + N)), .int le, .int mo] [oN b n_fa n_tr n_mi n_ju n_co n_cr (nI (S + p)) n_rm n_rj n_rc n_nw n_ov n_rl n_rd, ia (b 4) cI 240 n_ce] (fun r w => (p < N ∧ dgB (n_ce (S + p)) le mo = true ∧ ∃ d, r = nI d ∧ a ≤ d ∧ d ≤ c ∧ n_ce (S + p) - 48 = nI d ∧ w = [oN b n_fa n_tr n_mi n_ju n_co n_cr (nI (S + p + 1)) n_rm n_rj n_rc n_nw n_ov n_rl n_rd, ia (b 4) cI 240 n_ce]) ∨ (¬ (p < N ∧ dgB (n_ce (S + p)) le mo = true) ∧ r = -9 ∧ w = [oN b n_fa n_tr n_mi n_ju n_co n_cr (nI (S + p)) n_rm n_rj n_rc n_nw n_ov n_rl n_rd, ia (b 4) cI 240 n_ce])) := by
  refine Mi.of (by decide) (Nat.le_of_ble_eq_true rfl) ?_
  intro zp ze zs zm zb zt zc zz zA hA C hnm
  refine v_lv0 [(0, .ref (b 0)), (1, .int (nI (S + N))), (2, .int le), (3, .int mo)] rfl ?_
  refine v_aload_n C dX5_digit_0 0 rfl ?_
  refine v_get C f_X5_84 dX5_digit_1 0 rfl rfl ?_
  refine v_iload_n C dX5_digit_4 1 rfl ?_
  refine v_icmp_ge C 31 dX5_digit_5 (by decide) (fun c1 => ?_) (fun c1 => ?_)
  · have nc1 : (S + N) ≤ (S + p) := nI_leD c1 (by omega)
    refine v_bipush C (-9) dX5_digit_31 (by decide) ?_
    exact v_reti C hA dX5_digit_33 rfl (Or.inr ⟨fun q => absurd q.1 (by omega), rfl, rfl⟩)
  · have nc1 : (S + p) < (S + N) := nI_ltD c1 (by omega)
    refine v_aload_n C dX5_digit_8 0 rfl ?_
    refine v_get C f_X5_16 dX5_digit_9 0 rfl rfl ?_
    refine v_aload_n C dX5_digit_12 0 rfl ?_
    refine v_get C f_X5_84 dX5_digit_13 0 rfl rfl ?_
    refine v_ialdN C dX5_digit_16 1 rfl (S + p) rfl (by omega) (by decide) ?_
    refine v_bipush C 48 dX5_digit_17 (by decide) ?_
    refine v_iload_n C dX5_digit_19 2 rfl ?_
    refine v_iadd C dX5_digit_20 ?_
    refine v_bipush C 48 dX5_digit_21 (by decide) ?_
    refine v_iload_n C dX5_digit_23 3 rfl ?_
    refine v_iadd C dX5_digit_24 ?_
    refine v_callSi C l_X5_74 (m_X5_within (n_ce (S + p)) (48 + le) (48 + mo)) (by decide) dX5_digit_25 [] rfl rfl (rest := []) rfl (Nat.le_of_ble_eq_true rfl) (by decide) (fun r2 h3 => ?_)
    subst h3
    by_cases c4 : wib (n_ce (S + p)) (48 + le) (48 + mo) = true
    · refine v_eqi 1 (bI_t c4) ?_
      refine v_if_ne C 34 dX5_digit_28 (by decide) (fun _ => ?_) (fun h => absurd h (by decide))
      obtain ⟨d, hd1, hd2, hd3⟩ := dg_nat ha hc (by rw [← hle, ← hmo]; exact c4)
      refine v_aload_n C dX5_digit_34 0 rfl ?_
      refine v_dup C dX5_digit_35 rfl ?_
      refine v_get C f_X5_84 dX5_digit_36 0 rfl rfl ?_
      refine v_iconst C 1 dX5_digit_39 (by decide) ?_
      refine v_iadd C dX5_digit_40 ?_
      refine v_eqi (nI (S + p + 1)) (nI_1 _) ?_
      refine v_put C p_X5_84 [oN b n_fa n_tr n_mi n_ju n_co n_cr (nI (S + p + 1)) n_rm n_rj n_rc n_nw n_ov n_rl n_rd, ia (b 4) cI 240 n_ce] dX5_digit_41 0 rfl rfl rfl (Nat.le_of_ble_eq_true rfl) rfl ?_
      refine v_aload_n C dX5_digit_44 0 rfl ?_
      refine v_get C f_X5_16 dX5_digit_45 0 rfl rfl ?_
      refine v_aload_n C dX5_digit_48 0 rfl ?_
      refine v_get C f_X5_84 dX5_digit_49 0 rfl rfl ?_
      refine v_iconst C 1 dX5_digit_52 (by decide) ?_
      refine v_isub C dX5_digit_53 ?_
      refine v_eqi (nI (S + p)) (nI_s1 _) ?_
      refine v_ialdN C dX5_digit_54 1 rfl (S + p) rfl (by omega) (by decide) ?_
      refine v_bipush C 48 dX5_digit_55 (by decide) ?_
      refine v_isub C dX5_digit_57 ?_
      exact v_reti C hA dX5_digit_58 rfl (Or.inl ⟨by omega, c4, d, hd3, hd1, hd2, hd3, rfl⟩)
    · refine v_eqi 0 (bI_f c4) ?_
      refine v_if_ne C 34 dX5_digit_28 (by decide) (fun h => absurd h (by decide)) (fun _ => ?_)
      refine v_bipush C (-9) dX5_digit_31 (by decide) ?_
      exact v_reti C hA dX5_digit_33 rfl (Or.inr ⟨fun q => c4 q.2, rfl, rfl⟩)
set_option maxHeartbeats 4000000 in
set_option maxRecDepth 100000 in
theorem m_X5_isSign {l : Launch} {D : va_G} {cI cB cS : ClassId} (b : Nat → Nat) (S N p : Nat) (n_fa : Int32) (n_tr : Int32) (n_mi : Int32) (n_ju : Int32) (n_co : Int32) (n_cr : Int32) (n_rm : Int32) (n_rj : Int32) (n_rc : Int32) (n_nw : Int32) (n_ov : Int32) (n_rl : Int32) (n_rd : Int32) (n_ce : Nat → Int32) (cd : Int32) (hSN : S + N ≤ 240) (hpN : p ≤ N) : Mi l yX5_isSign cX5_isSign 3 (some .boolean) 0 0 D cI cB cS [.ref (b 0), .int (nI (S + N)), .int cd] [oN b n_fa n_tr n_mi n_ju n_co n_cr (nI (S + p)) n_rm n_rj n_rc n_nw n_ov n_rl n_rd, ia (b 4) cI 240 n_ce] (fun r w => (p < N ∧ n_ce (S + p) = cd ∧ r = 1 ∧ w = [oN b n_fa n_tr n_mi n_ju n_co n_cr (nI (S + p + 1)) n_rm n_rj n_rc n_nw n_ov n_rl n_rd, ia (b 4) cI 240 n_ce]) ∨ (¬ (p < N ∧ n_ce (S + p) = cd) ∧ r = 0 ∧ w = [oN b n_fa n_tr n_mi n_ju n_co n_cr (nI (S + p)) n_rm n_rj n_rc n_nw n_ov n_rl n_rd, ia (b 4) cI 240 n_ce])) := by
  refine Mi.of (by decide) (Nat.le_of_ble_eq_true rfl) ?_
  intro zp ze zs zm zb zt zc zz zA hA C hnm
  refine v_lv0 [(0, .ref (b 0)), (1, .int (nI (S + N))), (2, .int cd)] rfl ?_
  refine v_aload_n C dX5_isSign_0 0 rfl ?_
  refine v_get C f_X5_84 dX5_isSign_1 0 rfl rfl ?_
  refine v_iload_n C dX5_isSign_4 1 rfl ?_
  refine v_icmp_ge C 21 dX5_isSign_5 (by decide) (fun c1 => ?_) (fun c1 => ?_)
  · have nc1 : (S + N) ≤ (S + p) := nI_leD c1 (by omega)
    refine v_iconst C 0 dX5_isSign_21 (by decide) ?_
    exact v_reti C hA dX5_isSign_22 rfl (Or.inr ⟨fun q => absurd q.1 (by omega), rfl, rfl⟩)
  · have nc1 : (S + p) < (S + N) := nI_ltD c1 (by omega)
    refine v_aload_n C dX5_isSign_8 0 rfl ?_
    refine v_get C f_X5_16 dX5_isSign_9 0 rfl rfl ?_
    refine v_aload_n C dX5_isSign_12 0 rfl ?_
    refine v_get C f_X5_84 dX5_isSign_13 0 rfl rfl ?_
    refine v_ialdN C dX5_isSign_16 1 rfl (S + p) rfl (by omega) (by decide) ?_
    refine v_iload_n C dX5_isSign_17 2 rfl ?_
    refine v_icmp_eq C 23 dX5_isSign_18 (by decide) (fun c2 => ?_) (fun c2 => ?_)
    · refine v_aload_n C dX5_isSign_23 0 rfl ?_
      refine v_dup C dX5_isSign_24 rfl ?_
      refine v_get C f_X5_84 dX5_isSign_25 0 rfl rfl ?_
      refine v_iconst C 1 dX5_isSign_28 (by decide) ?_
      refine v_iadd C dX5_isSign_29 ?_
      refine v_eqi (nI (S + p + 1)) (nI_1 _) ?_
      refine v_put C p_X5_84 [oN b n_fa n_tr n_mi n_ju n_co n_cr (nI (S + p + 1)) n_rm n_rj n_rc n_nw n_ov n_rl n_rd, ia (b 4) cI 240 n_ce] dX5_isSign_30 0 rfl rfl rfl (Nat.le_of_ble_eq_true rfl) rfl ?_
      refine v_iconst C 1 dX5_isSign_33 (by decide) ?_
      exact v_reti C hA dX5_isSign_34 rfl (Or.inl ⟨by omega, c2, rfl, rfl⟩)
    · refine v_iconst C 0 dX5_isSign_21 (by decide) ?_
      exact v_reti C hA dX5_isSign_22 rfl (Or.inr ⟨fun q => c2 q.2, rfl, rfl⟩)
set_option maxHeartbeats 4000000 in
set_option maxRecDepth 100000 in
theorem m_X5_readTheMinutes {l : Launch} {D : va_G} {cI cB cS : ClassId} (b : Nat → Nat) (S N : Nat) (n_fa : Int32) (n_tr : Int32) (n_mi : Int32) (n_ju : Int32) (n_co : Int32) (n_cr : Int32) (n_rm : Int32) (n_rj : Int32) (n_rc : Int32) (n_nw : Int32) (n_ov : Int32) (n_rl : Int32) (n_rd : Int32) (n_ce : Nat → Int32) (hSN : S + N ≤ 240) (hR : RS (cw n_ce S) N 1) (hcf : cfN (cw n_ce S) 1 = none) (hN : 1 ≤ N) : Mi l yX5_readTheMinutes cX5_readTheMinutes 4 (some .boolean) 2 45 D cI cB cS [.ref (b 0), .int (nI (S + N))] [oN b n_fa n_tr n_mi n_ju n_co n_cr (nI (S + 1)) n_rm n_rj n_rc n_nw n_ov n_rl n_rd, ia (b 4) cI 240 n_ce] (fun r w => (r = 1 ∧ RS (cw n_ce S) N 3 ∧ cfN (cw n_ce S) 3 = none ∧ w = [oN b n_fa n_tr n_mi n_ju n_co n_cr (nI (S + 3)) (tmF (cw n_ce S)) n_rj n_rc n_nw n_ov n_rl n_rd, ia (b 4) cI 240 n_ce]) ∨ (r = 0 ∧ ∃ (pz : Nat) (rm' : Int32), ffF (cw n_ce S) N = some pz ∧ w = [oN b n_fa n_tr n_mi n_ju n_co n_cr (nI (S + pz)) rm' n_rj n_rc n_nw n_ov n_rl n_rd, ia (b 4) cI 240 n_ce])) := by
  refine Mi.of (by decide) (Nat.le_of_ble_eq_true rfl) ?_
  intro zp ze zs zm zb zt zc zz zA hA C hnm
  refine v_lv0 [(0, .ref (b 0)), (1, .int (nI (S + N)))] rfl ?_
  refine v_aload_n C dX5_readTheMinutes_0 0 rfl ?_
  refine v_iload_n C dX5_readTheMinutes_1 1 rfl ?_
  refine v_iconst C 0 dX5_readTheMinutes_2 (by decide) ?_
  refine v_bipush C 6 dX5_readTheMinutes_3 (by decide) ?_
  refine v_callMi C l_X5_136 (m_X5_digit b S N 1 0 6 n_fa n_tr n_mi n_ju n_co n_cr n_rm n_rj n_rc n_nw n_ov n_rl n_rd n_ce 0 6 hSN (by omega) (by decide) (by decide) rfl rfl) (by decide) dX5_readTheMinutes_5 [0, 1] [] (wr := []) (by decide) rfl rfl (by decide) (by decide) 0 rfl rfl rfl (rest := []) rfl (Nat.le_of_ble_eq_true rfl) (by decide) (fun r3 w1 h2 => ?_)
  rcases h2 with ⟨hp4, hg4, d4, rfl, h14, h24, h34, rfl⟩ | ⟨hn4, rfl, rfl⟩
  · refine v_ws0 [oN b n_fa n_tr n_mi n_ju n_co n_cr (nI (S + 1 + 1)) n_rm n_rj n_rc n_nw n_ov n_rl n_rd, ia (b 4) cI 240 n_ce] rfl ?_
    refine v_istore_n C [(2, .int (nI d4)), (0, .ref (b 0)), (1, .int (nI (S + N)))] dX5_readTheMinutes_8 (by decide) rfl ?_
    refine v_iload_n C dX5_readTheMinutes_9 0 rfl ?_
    refine v_bipush C (-9) dX5_readTheMinutes_10 (by decide) ?_
    refine v_icmp_ne C 17 dX5_readTheMinutes_12 (by decide) (fun c5 => ?_) (fun c5 => ?_)
    · have hR2 : RS (cw n_ce S) N 2 := RS_go hR hp4 (by rw [go_1]; exact hg4)
      have hc2 : cfN (cw n_ce S) 2 = none := cfN_none hcf (dg_ne h34 (by omega))
      refine v_aload_n C dX5_readTheMinutes_17 1 rfl ?_
      refine v_iload_n C dX5_readTheMinutes_18 2 rfl ?_
      refine v_iload_n C dX5_readTheMinutes_19 0 rfl ?_
      refine v_if_ne C 27 dX5_readTheMinutes_20 (by decide) (fun c6 => ?_) (fun c6 => ?_)
      · have nc6 : d4 ≠ 0 := fun q => c6 (by rw [q] <;> rfl)
        refine v_iconst C 0 dX5_readTheMinutes_27 (by decide) ?_
        refine v_iload_n C dX5_readTheMinutes_28 0 rfl ?_
        refine v_bipush C 6 dX5_readTheMinutes_29 (by decide) ?_
        refine v_icmp_ne C 38 dX5_readTheMinutes_31 (by decide) (fun c7 => ?_) (fun c7 => ?_)
        · have nc7 : d4 ≠ 6 := fun q => c7 (by rw [q] <;> rfl)
          have hmi := mi_iff (cf := cfN (cw n_ce S) 2) (f := (cw n_ce S)) h34 (by omega)
          rw [if_neg (by omega), if_neg (by omega)] at hmi
          refine v_bipush C 9 dX5_readTheMinutes_38 (by decide) ?_
          refine v_callMi C l_X5_136 (m_X5_digit b S N 2 0 9 n_fa n_tr n_mi n_ju n_co n_cr n_rm n_rj n_rc n_nw n_ov n_rl n_rd n_ce 0 9 hSN (by omega) (by decide) (by decide) rfl rfl) (by decide) dX5_readTheMinutes_40 [0, 1] [] (wr := []) (by decide) rfl rfl (by decide) (by decide) 0 rfl rfl rfl (rest := []) rfl (Nat.le_of_ble_eq_true rfl) (by decide) (fun r10 w8 h9 => ?_)
          rcases h9 with ⟨hp11, hg11, d11, rfl, h111, h211, h311, rfl⟩ | ⟨hn11, rfl, rfl⟩
          · refine v_ws0 [oN b n_fa n_tr n_mi n_ju n_co n_cr (nI (S + 2 + 1)) n_rm n_rj n_rc n_nw n_ov n_rl n_rd, ia (b 4) cI 240 n_ce] rfl ?_
            refine v_istore_n C [(3, .int (nI d11)), (2, .int (nI d4)), (0, .ref (b 0)), (1, .int (nI (S + N)))] dX5_readTheMinutes_43 (by decide) rfl ?_
            refine v_aload_n C dX5_readTheMinutes_44 2 rfl ?_
            refine v_bipush C 10 dX5_readTheMinutes_45 (by decide) ?_
            refine v_iload_n C dX5_readTheMinutes_47 1 rfl ?_
            refine v_imul C dX5_readTheMinutes_48 ?_
            refine v_iload_n C dX5_readTheMinutes_49 0 rfl ?_
            refine v_iadd C dX5_readTheMinutes_50 ?_
            refine v_put C p_X5_105 [oN b n_fa n_tr n_mi n_ju n_co n_cr (nI (S + 2 + 1)) ((10 * (nI d4)) + (nI d11)) n_rj n_rc n_nw n_ov n_rl n_rd, ia (b 4) cI 240 n_ce] dX5_readTheMinutes_51 0 rfl rfl rfl (Nat.le_of_ble_eq_true rfl) rfl ?_
            refine v_iload_n C dX5_readTheMinutes_54 0 rfl ?_
            refine v_bipush C (-9) dX5_readTheMinutes_55 (by decide) ?_
            refine v_icmp_eq C 64 dX5_readTheMinutes_57 (by decide) (fun c12 => ?_) (fun c12 => ?_)
            · exact absurd c12 (nI_ne9 (by omega))
            · refine v_iconst C 1 dX5_readTheMinutes_60 (by decide) ?_
              refine v_goto C 65 dX5_readTheMinutes_61 (by decide) ?_
              exact v_reti C hA dX5_readTheMinutes_65 rfl (Or.inl ⟨rfl, RS_go hR2 hp11 (hmi.mpr hg11), cfN_none hc2 (dg_ne h311 (by omega)), by rw [show tmF (cw n_ce S) = 10 * nI d4 + nI d11 from tm_eq h34 h311]⟩)
          · refine v_ws0 [oN b n_fa n_tr n_mi n_ju n_co n_cr (nI (S + 1 + 1)) n_rm n_rj n_rc n_nw n_ov n_rl n_rd, ia (b 4) cI 240 n_ce] rfl ?_
            refine v_istore_n C [(3, .int (-9)), (2, .int (nI d4)), (0, .ref (b 0)), (1, .int (nI (S + N)))] dX5_readTheMinutes_43 (by decide) rfl ?_
            refine v_aload_n C dX5_readTheMinutes_44 2 rfl ?_
            refine v_bipush C 10 dX5_readTheMinutes_45 (by decide) ?_
            refine v_iload_n C dX5_readTheMinutes_47 1 rfl ?_
            refine v_imul C dX5_readTheMinutes_48 ?_
            refine v_iload_n C dX5_readTheMinutes_49 0 rfl ?_
            refine v_iadd C dX5_readTheMinutes_50 ?_
            refine v_put C p_X5_105 [oN b n_fa n_tr n_mi n_ju n_co n_cr (nI (S + 1 + 1)) ((10 * (nI d4)) + (-9)) n_rj n_rc n_nw n_ov n_rl n_rd, ia (b 4) cI 240 n_ce] dX5_readTheMinutes_51 0 rfl rfl rfl (Nat.le_of_ble_eq_true rfl) rfl ?_
            refine v_iload_n C dX5_readTheMinutes_54 0 rfl ?_
            refine v_bipush C (-9) dX5_readTheMinutes_55 (by decide) ?_
            refine v_icmp_eq C 64 dX5_readTheMinutes_57 (by decide) (fun _ => ?_) (fun h => absurd h (by decide))
            refine v_iconst C 0 dX5_readTheMinutes_64 (by decide) ?_
            exact v_reti C hA dX5_readTheMinutes_65 rfl (Or.inr ⟨rfl, 2, _, RS_fault hR2 (fun q => hn11 ⟨q.1, hmi.mp q.2⟩) (fun q => wh_none hc2 q), rfl⟩)
        · have nc7 : d4 = 6 := nI_eqP c7 (by omega) (by omega)
          have hmi := mi_iff (cf := cfN (cw n_ce S) 2) (f := (cw n_ce S)) h34 (by omega)
          rw [if_neg (by omega), if_pos (by omega)] at hmi
          refine v_iconst C 0 dX5_readTheMinutes_34 (by decide) ?_
          refine v_goto C 40 dX5_readTheMinutes_35 (by decide) ?_
          refine v_callMi C l_X5_136 (m_X5_digit b S N 2 0 0 n_fa n_tr n_mi n_ju n_co n_cr n_rm n_rj n_rc n_nw n_ov n_rl n_rd n_ce 0 0 hSN (by omega) (by decide) (by decide) rfl rfl) (by decide) dX5_readTheMinutes_40 [0, 1] [] (wr := []) (by decide) rfl rfl (by decide) (by decide) 0 rfl rfl rfl (rest := []) rfl (Nat.le_of_ble_eq_true rfl) (by decide) (fun r15 w13 h14 => ?_)
          rcases h14 with ⟨hp16, hg16, d16, rfl, h116, h216, h316, rfl⟩ | ⟨hn16, rfl, rfl⟩
          · refine v_ws0 [oN b n_fa n_tr n_mi n_ju n_co n_cr (nI (S + 2 + 1)) n_rm n_rj n_rc n_nw n_ov n_rl n_rd, ia (b 4) cI 240 n_ce] rfl ?_
            refine v_istore_n C [(3, .int (nI d16)), (2, .int (nI d4)), (0, .ref (b 0)), (1, .int (nI (S + N)))] dX5_readTheMinutes_43 (by decide) rfl ?_
            refine v_aload_n C dX5_readTheMinutes_44 2 rfl ?_
            refine v_bipush C 10 dX5_readTheMinutes_45 (by decide) ?_
            refine v_iload_n C dX5_readTheMinutes_47 1 rfl ?_
            refine v_imul C dX5_readTheMinutes_48 ?_
            refine v_iload_n C dX5_readTheMinutes_49 0 rfl ?_
            refine v_iadd C dX5_readTheMinutes_50 ?_
            refine v_put C p_X5_105 [oN b n_fa n_tr n_mi n_ju n_co n_cr (nI (S + 2 + 1)) ((10 * (nI d4)) + (nI d16)) n_rj n_rc n_nw n_ov n_rl n_rd, ia (b 4) cI 240 n_ce] dX5_readTheMinutes_51 0 rfl rfl rfl (Nat.le_of_ble_eq_true rfl) rfl ?_
            refine v_iload_n C dX5_readTheMinutes_54 0 rfl ?_
            refine v_bipush C (-9) dX5_readTheMinutes_55 (by decide) ?_
            refine v_icmp_eq C 64 dX5_readTheMinutes_57 (by decide) (fun c17 => ?_) (fun c17 => ?_)
            · exact absurd c17 (nI_ne9 (by omega))
            · refine v_iconst C 1 dX5_readTheMinutes_60 (by decide) ?_
              refine v_goto C 65 dX5_readTheMinutes_61 (by decide) ?_
              exact v_reti C hA dX5_readTheMinutes_65 rfl (Or.inl ⟨rfl, RS_go hR2 hp16 (hmi.mpr hg16), cfN_none hc2 (dg_ne h316 (by omega)), by rw [show tmF (cw n_ce S) = 10 * nI d4 + nI d16 from tm_eq h34 h316]⟩)
          · refine v_ws0 [oN b n_fa n_tr n_mi n_ju n_co n_cr (nI (S + 1 + 1)) n_rm n_rj n_rc n_nw n_ov n_rl n_rd, ia (b 4) cI 240 n_ce] rfl ?_
            refine v_istore_n C [(3, .int (-9)), (2, .int (nI d4)), (0, .ref (b 0)), (1, .int (nI (S + N)))] dX5_readTheMinutes_43 (by decide) rfl ?_
            refine v_aload_n C dX5_readTheMinutes_44 2 rfl ?_
            refine v_bipush C 10 dX5_readTheMinutes_45 (by decide) ?_
            refine v_iload_n C dX5_readTheMinutes_47 1 rfl ?_
            refine v_imul C dX5_readTheMinutes_48 ?_
            refine v_iload_n C dX5_readTheMinutes_49 0 rfl ?_
            refine v_iadd C dX5_readTheMinutes_50 ?_
            refine v_put C p_X5_105 [oN b n_fa n_tr n_mi n_ju n_co n_cr (nI (S + 1 + 1)) ((10 * (nI d4)) + (-9)) n_rj n_rc n_nw n_ov n_rl n_rd, ia (b 4) cI 240 n_ce] dX5_readTheMinutes_51 0 rfl rfl rfl (Nat.le_of_ble_eq_true rfl) rfl ?_
            refine v_iload_n C dX5_readTheMinutes_54 0 rfl ?_
            refine v_bipush C (-9) dX5_readTheMinutes_55 (by decide) ?_
            refine v_icmp_eq C 64 dX5_readTheMinutes_57 (by decide) (fun _ => ?_) (fun h => absurd h (by decide))
            refine v_iconst C 0 dX5_readTheMinutes_64 (by decide) ?_
            exact v_reti C hA dX5_readTheMinutes_65 rfl (Or.inr ⟨rfl, 2, _, RS_fault hR2 (fun q => hn16 ⟨q.1, hmi.mp q.2⟩) (fun q => wh_none hc2 q), rfl⟩)
      · have nc6 : d4 = 0 := nI_eqP c6 (by omega) (by omega)
        refine v_iconst C 5 dX5_readTheMinutes_23 (by decide) ?_
        refine v_goto C 28 dX5_readTheMinutes_24 (by decide) ?_
        refine v_iload_n C dX5_readTheMinutes_28 0 rfl ?_
        refine v_bipush C 6 dX5_readTheMinutes_29 (by decide) ?_
        refine v_icmp_ne C 38 dX5_readTheMinutes_31 (by decide) (fun c18 => ?_) (fun c18 => ?_)
        · have nc18 : d4 ≠ 6 := fun q => c18 (by rw [q] <;> rfl)
          have hmi := mi_iff (cf := cfN (cw n_ce S) 2) (f := (cw n_ce S)) h34 (by omega)
          rw [if_pos (by omega), if_neg (by omega)] at hmi
          refine v_bipush C 9 dX5_readTheMinutes_38 (by decide) ?_
          refine v_callMi C l_X5_136 (m_X5_digit b S N 2 5 9 n_fa n_tr n_mi n_ju n_co n_cr n_rm n_rj n_rc n_nw n_ov n_rl n_rd n_ce 5 9 hSN (by omega) (by decide) (by decide) rfl rfl) (by decide) dX5_readTheMinutes_40 [0, 1] [] (wr := []) (by decide) rfl rfl (by decide) (by decide) 0 rfl rfl rfl (rest := []) rfl (Nat.le_of_ble_eq_true rfl) (by decide) (fun r21 w19 h20 => ?_)
          rcases h20 with ⟨hp22, hg22, d22, rfl, h122, h222, h322, rfl⟩ | ⟨hn22, rfl, rfl⟩
          · refine v_ws0 [oN b n_fa n_tr n_mi n_ju n_co n_cr (nI (S + 2 + 1)) n_rm n_rj n_rc n_nw n_ov n_rl n_rd, ia (b 4) cI 240 n_ce] rfl ?_
            refine v_istore_n C [(3, .int (nI d22)), (2, .int (nI d4)), (0, .ref (b 0)), (1, .int (nI (S + N)))] dX5_readTheMinutes_43 (by decide) rfl ?_
            refine v_aload_n C dX5_readTheMinutes_44 2 rfl ?_
            refine v_bipush C 10 dX5_readTheMinutes_45 (by decide) ?_
            refine v_iload_n C dX5_readTheMinutes_47 1 rfl ?_
            refine v_imul C dX5_readTheMinutes_48 ?_
            refine v_iload_n C dX5_readTheMinutes_49 0 rfl ?_
            refine v_iadd C dX5_readTheMinutes_50 ?_
            refine v_put C p_X5_105 [oN b n_fa n_tr n_mi n_ju n_co n_cr (nI (S + 2 + 1)) ((10 * (nI d4)) + (nI d22)) n_rj n_rc n_nw n_ov n_rl n_rd, ia (b 4) cI 240 n_ce] dX5_readTheMinutes_51 0 rfl rfl rfl (Nat.le_of_ble_eq_true rfl) rfl ?_
            refine v_iload_n C dX5_readTheMinutes_54 0 rfl ?_
            refine v_bipush C (-9) dX5_readTheMinutes_55 (by decide) ?_
            refine v_icmp_eq C 64 dX5_readTheMinutes_57 (by decide) (fun c23 => ?_) (fun c23 => ?_)
            · exact absurd c23 (nI_ne9 (by omega))
            · refine v_iconst C 1 dX5_readTheMinutes_60 (by decide) ?_
              refine v_goto C 65 dX5_readTheMinutes_61 (by decide) ?_
              exact v_reti C hA dX5_readTheMinutes_65 rfl (Or.inl ⟨rfl, RS_go hR2 hp22 (hmi.mpr hg22), cfN_none hc2 (dg_ne h322 (by omega)), by rw [show tmF (cw n_ce S) = 10 * nI d4 + nI d22 from tm_eq h34 h322]⟩)
          · refine v_ws0 [oN b n_fa n_tr n_mi n_ju n_co n_cr (nI (S + 1 + 1)) n_rm n_rj n_rc n_nw n_ov n_rl n_rd, ia (b 4) cI 240 n_ce] rfl ?_
            refine v_istore_n C [(3, .int (-9)), (2, .int (nI d4)), (0, .ref (b 0)), (1, .int (nI (S + N)))] dX5_readTheMinutes_43 (by decide) rfl ?_
            refine v_aload_n C dX5_readTheMinutes_44 2 rfl ?_
            refine v_bipush C 10 dX5_readTheMinutes_45 (by decide) ?_
            refine v_iload_n C dX5_readTheMinutes_47 1 rfl ?_
            refine v_imul C dX5_readTheMinutes_48 ?_
            refine v_iload_n C dX5_readTheMinutes_49 0 rfl ?_
            refine v_iadd C dX5_readTheMinutes_50 ?_
            refine v_put C p_X5_105 [oN b n_fa n_tr n_mi n_ju n_co n_cr (nI (S + 1 + 1)) ((10 * (nI d4)) + (-9)) n_rj n_rc n_nw n_ov n_rl n_rd, ia (b 4) cI 240 n_ce] dX5_readTheMinutes_51 0 rfl rfl rfl (Nat.le_of_ble_eq_true rfl) rfl ?_
            refine v_iload_n C dX5_readTheMinutes_54 0 rfl ?_
            refine v_bipush C (-9) dX5_readTheMinutes_55 (by decide) ?_
            refine v_icmp_eq C 64 dX5_readTheMinutes_57 (by decide) (fun _ => ?_) (fun h => absurd h (by decide))
            refine v_iconst C 0 dX5_readTheMinutes_64 (by decide) ?_
            exact v_reti C hA dX5_readTheMinutes_65 rfl (Or.inr ⟨rfl, 2, _, RS_fault hR2 (fun q => hn22 ⟨q.1, hmi.mp q.2⟩) (fun q => wh_none hc2 q), rfl⟩)
        · have nc18 : d4 = 6 := nI_eqP c18 (by omega) (by omega)
          exact absurd nc18 (by omega)
    · exact absurd c5 (nI_ne9 (by omega))
  · refine v_ws0 [oN b n_fa n_tr n_mi n_ju n_co n_cr (nI (S + 1)) n_rm n_rj n_rc n_nw n_ov n_rl n_rd, ia (b 4) cI 240 n_ce] rfl ?_
    refine v_istore_n C [(2, .int (-9)), (0, .ref (b 0)), (1, .int (nI (S + N)))] dX5_readTheMinutes_8 (by decide) rfl ?_
    refine v_iload_n C dX5_readTheMinutes_9 0 rfl ?_
    refine v_bipush C (-9) dX5_readTheMinutes_10 (by decide) ?_
    refine v_icmp_ne C 17 dX5_readTheMinutes_12 (by decide) (fun h => absurd h (by decide)) (fun _ => ?_)
    refine v_iconst C 0 dX5_readTheMinutes_15 (by decide) ?_
    exact v_reti C hA dX5_readTheMinutes_16 rfl (Or.inr ⟨rfl, 1, _, RS_fault hR (by rw [go_1]; exact hn4) (fun q => wh_none hcf q), rfl⟩)
set_option maxHeartbeats 4000000 in
set_option maxRecDepth 100000 in
theorem m_X5_readOneJuror {l : Launch} {D : va_G} {cI cB cS : ClassId} (b : Nat → Nat) (S N p j : Nat) (n_fa : Int32) (n_tr : Int32) (n_mi : Int32) (n_ju : Int32) (n_co : Int32) (n_cr : Int32) (n_rm : Int32) (n_rc : Int32) (n_nw : Int32) (n_ov : Int32) (n_rl : Int32) (n_rd : Int32) (n_ce : Nat → Int32) (n_rJ : Nat → Int32) (hSN : S + N ≤ 240) (hpN : p ≤ N) (hj : j < 5) (hpj : p = 3 + 3 * j + 1) (hR : RS (cw n_ce S) N p) (hcf : cfN (cw n_ce S) p = none) : Mi l yX5_readOneJuror cX5_readOneJuror 4 (some .boolean) 2 45 D cI cB cS [.ref (b 0), .int (nI (S + N))] [oN b n_fa n_tr n_mi n_ju n_co n_cr (nI (S + p)) n_rm (nI j) n_rc n_nw n_ov n_rl n_rd, ia (b 4) cI 240 n_ce, ia (b 20) cI 10 n_rJ] (fun r w => (r = 1 ∧ RS (cw n_ce S) N (p + 2) ∧ cfN (cw n_ce S) (p + 2) = none ∧ w = [oN b n_fa n_tr n_mi n_ju n_co n_cr (nI (S + (p + 2))) n_rm (nI (j + 1)) n_rc n_nw n_ov n_rl n_rd, ia (b 4) cI 240 n_ce, ia (b 20) cI 10 (upd (upd n_rJ (2 * j) (kdF (n_ce (S + p)))) (2 * j + 1) (n_ce (S + p + 1) - 48))]) ∨ (r = 0 ∧ ∃ (pz : Nat) (rj' : Int32) (rJ' : Nat → Int32), ffF (cw n_ce S) N = some pz ∧ w = [oN b n_fa n_tr n_mi n_ju n_co n_cr (nI (S + pz)) n_rm rj' n_rc n_nw n_ov n_rl n_rd, ia (b 4) cI 240 n_ce, ia (b 20) cI 10 rJ'])) := by
  refine Mi.of (by decide) (Nat.le_of_ble_eq_true rfl) ?_
  intro zp ze zs zm zb zt zc zz zA hA C hnm
  refine v_lv0 [(0, .ref (b 0)), (1, .int (nI (S + N)))] rfl ?_
  refine v_iconst C 2 dX5_readOneJuror_0 (by decide) ?_
  refine v_aload_n C dX5_readOneJuror_1 0 rfl ?_
  refine v_get C f_X5_111 dX5_readOneJuror_2 0 rfl rfl ?_
  refine v_imul C dX5_readOneJuror_5 ?_
  refine v_eqi (nI (2 * j)) (pk_mul 2 j) ?_
  refine v_istore_n C [(2, .int (nI (2 * j))), (0, .ref (b 0)), (1, .int (nI (S + N)))] dX5_readOneJuror_6 (by decide) rfl ?_
  refine v_aload_n C dX5_readOneJuror_7 1 rfl ?_
  refine v_get C f_X5_84 dX5_readOneJuror_8 0 rfl rfl ?_
  refine v_iload_n C dX5_readOneJuror_11 2 rfl ?_
  refine v_icmp_ge C 27 dX5_readOneJuror_12 (by decide) (fun c1 => ?_) (fun c1 => ?_)
  · have nc1 : (S + N) ≤ (S + p) := nI_leD c1 (by omega)
    refine v_iconst C 0 dX5_readOneJuror_27 (by decide) ?_
    refine v_istore_n C [(3, .int 0), (2, .int (nI (2 * j))), (0, .ref (b 0)), (1, .int (nI (S + N)))] dX5_readOneJuror_28 (by decide) rfl ?_
    refine v_aload_n C dX5_readOneJuror_29 2 rfl ?_
    refine v_get C f_X5_41 dX5_readOneJuror_30 0 rfl rfl ?_
    refine v_iload_n C dX5_readOneJuror_33 1 rfl ?_
    refine v_iload_n C dX5_readOneJuror_34 0 rfl ?_
    refine v_bipush C 99 dX5_readOneJuror_35 (by decide) ?_
    refine v_icmp_ne C 44 dX5_readOneJuror_37 (by decide) (fun _ => ?_) (fun h => absurd h (by decide))
    refine v_iload_n C dX5_readOneJuror_44 0 rfl ?_
    refine v_bipush C 104 dX5_readOneJuror_45 (by decide) ?_
    refine v_icmp_ne C 54 dX5_readOneJuror_47 (by decide) (fun _ => ?_) (fun h => absurd h (by decide))
    refine v_iload_n C dX5_readOneJuror_54 0 rfl ?_
    refine v_bipush C 115 dX5_readOneJuror_55 (by decide) ?_
    refine v_icmp_ne C 64 dX5_readOneJuror_57 (by decide) (fun _ => ?_) (fun h => absurd h (by decide))
    refine v_bipush C (-9) dX5_readOneJuror_64 (by decide) ?_
    refine v_iastN C [oN b n_fa n_tr n_mi n_ju n_co n_cr (nI (S + p)) n_rm (nI j) n_rc n_nw n_ov n_rl n_rd, ia (b 4) cI 240 n_ce, ia (b 20) cI 10 (upd n_rJ (2 * j) (-9))] dX5_readOneJuror_66 2 rfl (2 * j) rfl (by omega) (by decide) rfl ?_
    refine v_aload_n C dX5_readOneJuror_67 2 rfl ?_
    refine v_get C f_X5_41 dX5_readOneJuror_68 0 rfl rfl ?_
    refine v_iload_n C dX5_readOneJuror_71 1 rfl ?_
    refine v_ialdN C dX5_readOneJuror_72 2 rfl (2 * j) rfl (by omega) (by decide) ?_
    refine v_eqi (-9) (upd_at) ?_
    refine v_bipush C (-9) dX5_readOneJuror_73 (by decide) ?_
    refine v_icmp_ne C 80 dX5_readOneJuror_75 (by decide) (fun h => absurd h (by decide)) (fun _ => ?_)
    refine v_iconst C 0 dX5_readOneJuror_78 (by decide) ?_
    exact v_reti C hA dX5_readOneJuror_79 rfl (Or.inr ⟨rfl, p, _, _, RS_fault hR (fun q => absurd q.1 (by omega)) (fun q => wh_none hcf q), rfl⟩)
  · have nc1 : (S + p) < (S + N) := nI_ltD c1 (by omega)
    refine v_aload_n C dX5_readOneJuror_15 1 rfl ?_
    refine v_get C f_X5_16 dX5_readOneJuror_16 0 rfl rfl ?_
    refine v_aload_n C dX5_readOneJuror_19 1 rfl ?_
    refine v_get C f_X5_84 dX5_readOneJuror_20 0 rfl rfl ?_
    refine v_ialdN C dX5_readOneJuror_23 1 rfl (S + p) rfl (by omega) (by decide) ?_
    refine v_goto C 28 dX5_readOneJuror_24 (by decide) ?_
    refine v_istore_n C [(3, .int (n_ce (S + p))), (2, .int (nI (2 * j))), (0, .ref (b 0)), (1, .int (nI (S + N)))] dX5_readOneJuror_28 (by decide) rfl ?_
    refine v_aload_n C dX5_readOneJuror_29 2 rfl ?_
    refine v_get C f_X5_41 dX5_readOneJuror_30 0 rfl rfl ?_
    refine v_iload_n C dX5_readOneJuror_33 1 rfl ?_
    refine v_iload_n C dX5_readOneJuror_34 0 rfl ?_
    refine v_bipush C 99 dX5_readOneJuror_35 (by decide) ?_
    refine v_icmp_ne C 44 dX5_readOneJuror_37 (by decide) (fun c2 => ?_) (fun c2 => ?_)
    · refine v_iload_n C dX5_readOneJuror_44 0 rfl ?_
      refine v_bipush C 104 dX5_readOneJuror_45 (by decide) ?_
      refine v_icmp_ne C 54 dX5_readOneJuror_47 (by decide) (fun c3 => ?_) (fun c3 => ?_)
      · refine v_iload_n C dX5_readOneJuror_54 0 rfl ?_
        refine v_bipush C 115 dX5_readOneJuror_55 (by decide) ?_
        refine v_icmp_ne C 64 dX5_readOneJuror_57 (by decide) (fun c4 => ?_) (fun c4 => ?_)
        · refine v_bipush C (-9) dX5_readOneJuror_64 (by decide) ?_
          refine v_iastN C [oN b n_fa n_tr n_mi n_ju n_co n_cr (nI (S + p)) n_rm (nI j) n_rc n_nw n_ov n_rl n_rd, ia (b 4) cI 240 n_ce, ia (b 20) cI 10 (upd n_rJ (2 * j) (-9))] dX5_readOneJuror_66 2 rfl (2 * j) rfl (by omega) (by decide) rfl ?_
          refine v_aload_n C dX5_readOneJuror_67 2 rfl ?_
          refine v_get C f_X5_41 dX5_readOneJuror_68 0 rfl rfl ?_
          refine v_iload_n C dX5_readOneJuror_71 1 rfl ?_
          refine v_ialdN C dX5_readOneJuror_72 2 rfl (2 * j) rfl (by omega) (by decide) ?_
          have hkd : kdF (n_ce (S + p)) = (-9) := by simp [kdF, c2, c3, c4]
          refine v_eqi (-9) (upd_at) ?_
          refine v_bipush C (-9) dX5_readOneJuror_73 (by decide) ?_
          refine v_icmp_ne C 80 dX5_readOneJuror_75 (by decide) (fun h => absurd h (by decide)) (fun _ => ?_)
          refine v_iconst C 0 dX5_readOneJuror_78 (by decide) ?_
          exact v_reti C hA dX5_readOneJuror_79 rfl (Or.inr ⟨rfl, p, _, _, RS_fault hR (fun q => absurd q.2 (by rw [hcf, hpj, go_j1, ← hpj]; show ¬ (!decide (kdF (n_ce (S + p)) = -9)) = true; rw [hkd]; decide)) (fun q => wh_none hcf q), rfl⟩)
        · refine v_iconst C 2 dX5_readOneJuror_60 (by decide) ?_
          refine v_goto C 66 dX5_readOneJuror_61 (by decide) ?_
          refine v_iastN C [oN b n_fa n_tr n_mi n_ju n_co n_cr (nI (S + p)) n_rm (nI j) n_rc n_nw n_ov n_rl n_rd, ia (b 4) cI 240 n_ce, ia (b 20) cI 10 (upd n_rJ (2 * j) 2)] dX5_readOneJuror_66 2 rfl (2 * j) rfl (by omega) (by decide) rfl ?_
          refine v_aload_n C dX5_readOneJuror_67 2 rfl ?_
          refine v_get C f_X5_41 dX5_readOneJuror_68 0 rfl rfl ?_
          refine v_iload_n C dX5_readOneJuror_71 1 rfl ?_
          refine v_ialdN C dX5_readOneJuror_72 2 rfl (2 * j) rfl (by omega) (by decide) ?_
          have hkd : kdF (n_ce (S + p)) = 2 := by simp [kdF, c2, c3, c4]
          refine v_eqi (2) (upd_at) ?_
          refine v_bipush C (-9) dX5_readOneJuror_73 (by decide) ?_
          refine v_icmp_ne C 80 dX5_readOneJuror_75 (by decide) (fun _ => ?_) (fun h => absurd h (by decide))
          refine v_aload_n C dX5_readOneJuror_80 2 rfl ?_
          refine v_dup C dX5_readOneJuror_81 rfl ?_
          refine v_get C f_X5_84 dX5_readOneJuror_82 0 rfl rfl ?_
          refine v_iconst C 1 dX5_readOneJuror_85 (by decide) ?_
          refine v_iadd C dX5_readOneJuror_86 ?_
          refine v_eqi (nI (S + p + 1)) (nI_1 _) ?_
          refine v_put C p_X5_84 [oN b n_fa n_tr n_mi n_ju n_co n_cr (nI (S + p + 1)) n_rm (nI j) n_rc n_nw n_ov n_rl n_rd, ia (b 4) cI 240 n_ce, ia (b 20) cI 10 (upd n_rJ (2 * j) 2)] dX5_readOneJuror_87 0 rfl rfl rfl (Nat.le_of_ble_eq_true rfl) rfl ?_
          have hp0 : p < N := by omega
          have hR2 : RS (cw n_ce S) N (p + 1) := RS_go hR hp0 (by rw [hcf, hpj, go_j1, ← hpj]; show (!decide (kdF (n_ce (S + p)) = -9)) = true; rw [hkd]; decide)
          have hc2 : cfN (cw n_ce S) (p + 1) = none := cfN_none hcf (kd_ne (x := n_ce (S + p)) (by rw [hkd]; decide))
          have hgo2 : goB (cw n_ce S) (p + 1) (cfN (cw n_ce S) (p + 1)) = dgB (n_ce (S + p + 1)) 1 9 := by rw [hc2, hpj, go_j2]; rfl
          refine v_aload_n C dX5_readOneJuror_90 2 rfl ?_
          refine v_get C f_X5_41 dX5_readOneJuror_91 0 rfl rfl ?_
          refine v_iload_n C dX5_readOneJuror_94 1 rfl ?_
          refine v_iconst C 1 dX5_readOneJuror_95 (by decide) ?_
          refine v_iadd C dX5_readOneJuror_96 ?_
          refine v_eqi (nI (2 * j + 1)) (nI_1 _) ?_
          refine v_aload_n C dX5_readOneJuror_97 2 rfl ?_
          refine v_iload_n C dX5_readOneJuror_98 3 rfl ?_
          refine v_iconst C 1 dX5_readOneJuror_99 (by decide) ?_
          refine v_bipush C 9 dX5_readOneJuror_100 (by decide) ?_
          refine v_callMi C l_X5_136 (m_X5_digit b S N (p + 1) 1 9 n_fa n_tr n_mi n_ju n_co n_cr n_rm (nI j) n_rc n_nw n_ov n_rl n_rd n_ce 1 9 hSN (by omega) (by decide) (by decide) rfl rfl) (by decide) dX5_readOneJuror_102 [0, 1] [2] (wr := [ia (b 20) cI 10 (upd n_rJ (2 * j) 2)]) (by decide) rfl rfl (by decide) (by decide) 0 rfl rfl rfl (rest := [.int (nI (2 * j + 1)), .ref (b 20)]) rfl (Nat.le_of_ble_eq_true rfl) (by decide) (fun r7 w5 h6 => ?_)
          rcases h6 with ⟨hp8, hg8, d8, rfl, h18, h28, h38, rfl⟩ | ⟨hn8, rfl, rfl⟩
          · refine v_ws0 [ia (b 20) cI 10 (upd n_rJ (2 * j) 2), oN b n_fa n_tr n_mi n_ju n_co n_cr (nI (S + (p + 1) + 1)) n_rm (nI j) n_rc n_nw n_ov n_rl n_rd, ia (b 4) cI 240 n_ce] rfl ?_
            refine v_iastN C [ia (b 20) cI 10 (upd (upd n_rJ (2 * j) 2) (2 * j + 1) (nI d8)), oN b n_fa n_tr n_mi n_ju n_co n_cr (nI (S + (p + 1) + 1)) n_rm (nI j) n_rc n_nw n_ov n_rl n_rd, ia (b 4) cI 240 n_ce] dX5_readOneJuror_105 0 rfl (2 * j + 1) rfl (by omega) (by decide) rfl ?_
            refine v_aload_n C dX5_readOneJuror_106 2 rfl ?_
            refine v_dup C dX5_readOneJuror_107 rfl ?_
            refine v_get C f_X5_111 dX5_readOneJuror_108 1 rfl rfl ?_
            refine v_iconst C 1 dX5_readOneJuror_111 (by decide) ?_
            refine v_iadd C dX5_readOneJuror_112 ?_
            refine v_eqi (nI (j + 1)) (nI_1 _) ?_
            refine v_put C p_X5_111 [ia (b 20) cI 10 (upd (upd n_rJ (2 * j) 2) (2 * j + 1) (nI d8)), oN b n_fa n_tr n_mi n_ju n_co n_cr (nI (S + (p + 1) + 1)) n_rm (nI (j + 1)) n_rc n_nw n_ov n_rl n_rd, ia (b 4) cI 240 n_ce] dX5_readOneJuror_113 1 rfl rfl rfl (Nat.le_of_ble_eq_true rfl) rfl ?_
            refine v_aload_n C dX5_readOneJuror_116 2 rfl ?_
            refine v_get C f_X5_41 dX5_readOneJuror_117 1 rfl rfl ?_
            refine v_iload_n C dX5_readOneJuror_120 1 rfl ?_
            refine v_iconst C 1 dX5_readOneJuror_121 (by decide) ?_
            refine v_iadd C dX5_readOneJuror_122 ?_
            refine v_eqi (nI (2 * j + 1)) (nI_1 _) ?_
            refine v_ialdN C dX5_readOneJuror_123 0 rfl (2 * j + 1) rfl (by omega) (by decide) ?_
            refine v_eqi (nI d8) (upd_at) ?_
            refine v_bipush C (-9) dX5_readOneJuror_124 (by decide) ?_
            refine v_icmp_eq C 133 dX5_readOneJuror_126 (by decide) (fun c9 => ?_) (fun c9 => ?_)
            · exact absurd c9 (nI_ne9 (by omega))
            · refine v_iconst C 1 dX5_readOneJuror_129 (by decide) ?_
              refine v_goto C 134 dX5_readOneJuror_130 (by decide) ?_
              refine v_perm (ws' := [oN b n_fa n_tr n_mi n_ju n_co n_cr (nI (S + (p + 1) + 1)) n_rm (nI (j + 1)) n_rc n_nw n_ov n_rl n_rd, ia (b 4) cI 240 n_ce, ia (b 20) cI 10 (upd (upd n_rJ (2 * j) 2) (2 * j + 1) (nI d8))]) [1, 2, 0] (by decide) rfl ?_
              exact v_reti C hA dX5_readOneJuror_134 rfl (Or.inl ⟨rfl, RS_go hR2 hp8 (by rw [hgo2]; exact hg8), cfN_none hc2 (dg_ne h38 (by omega)), by rw [hkd, show n_ce (S + p + 1) - 48 = nI d8 from h38]; rfl⟩)
          · refine v_ws0 [ia (b 20) cI 10 (upd n_rJ (2 * j) 2), oN b n_fa n_tr n_mi n_ju n_co n_cr (nI (S + p + 1)) n_rm (nI j) n_rc n_nw n_ov n_rl n_rd, ia (b 4) cI 240 n_ce] rfl ?_
            refine v_iastN C [ia (b 20) cI 10 (upd (upd n_rJ (2 * j) 2) (2 * j + 1) (-9)), oN b n_fa n_tr n_mi n_ju n_co n_cr (nI (S + p + 1)) n_rm (nI j) n_rc n_nw n_ov n_rl n_rd, ia (b 4) cI 240 n_ce] dX5_readOneJuror_105 0 rfl (2 * j + 1) rfl (by omega) (by decide) rfl ?_
            refine v_aload_n C dX5_readOneJuror_106 2 rfl ?_
            refine v_dup C dX5_readOneJuror_107 rfl ?_
            refine v_get C f_X5_111 dX5_readOneJuror_108 1 rfl rfl ?_
            refine v_iconst C 1 dX5_readOneJuror_111 (by decide) ?_
            refine v_iadd C dX5_readOneJuror_112 ?_
            refine v_eqi (nI (j + 1)) (nI_1 _) ?_
            refine v_put C p_X5_111 [ia (b 20) cI 10 (upd (upd n_rJ (2 * j) 2) (2 * j + 1) (-9)), oN b n_fa n_tr n_mi n_ju n_co n_cr (nI (S + p + 1)) n_rm (nI (j + 1)) n_rc n_nw n_ov n_rl n_rd, ia (b 4) cI 240 n_ce] dX5_readOneJuror_113 1 rfl rfl rfl (Nat.le_of_ble_eq_true rfl) rfl ?_
            refine v_aload_n C dX5_readOneJuror_116 2 rfl ?_
            refine v_get C f_X5_41 dX5_readOneJuror_117 1 rfl rfl ?_
            refine v_iload_n C dX5_readOneJuror_120 1 rfl ?_
            refine v_iconst C 1 dX5_readOneJuror_121 (by decide) ?_
            refine v_iadd C dX5_readOneJuror_122 ?_
            refine v_eqi (nI (2 * j + 1)) (nI_1 _) ?_
            refine v_ialdN C dX5_readOneJuror_123 0 rfl (2 * j + 1) rfl (by omega) (by decide) ?_
            refine v_eqi ((-9)) (upd_at) ?_
            refine v_bipush C (-9) dX5_readOneJuror_124 (by decide) ?_
            refine v_icmp_eq C 133 dX5_readOneJuror_126 (by decide) (fun _ => ?_) (fun h => absurd h (by decide))
            refine v_iconst C 0 dX5_readOneJuror_133 (by decide) ?_
            refine v_perm (ws' := [oN b n_fa n_tr n_mi n_ju n_co n_cr (nI (S + p + 1)) n_rm (nI (j + 1)) n_rc n_nw n_ov n_rl n_rd, ia (b 4) cI 240 n_ce, ia (b 20) cI 10 (upd (upd n_rJ (2 * j) 2) (2 * j + 1) (-9))]) [1, 2, 0] (by decide) rfl ?_
            exact v_reti C hA dX5_readOneJuror_134 rfl (Or.inr ⟨rfl, p + 1, _, _, RS_fault hR2 (fun q => hn8 ⟨q.1, hgo2.symm.trans q.2⟩) (fun q => wh_none hc2 q), rfl⟩)
      · refine v_iconst C 1 dX5_readOneJuror_50 (by decide) ?_
        refine v_goto C 66 dX5_readOneJuror_51 (by decide) ?_
        refine v_iastN C [oN b n_fa n_tr n_mi n_ju n_co n_cr (nI (S + p)) n_rm (nI j) n_rc n_nw n_ov n_rl n_rd, ia (b 4) cI 240 n_ce, ia (b 20) cI 10 (upd n_rJ (2 * j) 1)] dX5_readOneJuror_66 2 rfl (2 * j) rfl (by omega) (by decide) rfl ?_
        refine v_aload_n C dX5_readOneJuror_67 2 rfl ?_
        refine v_get C f_X5_41 dX5_readOneJuror_68 0 rfl rfl ?_
        refine v_iload_n C dX5_readOneJuror_71 1 rfl ?_
        refine v_ialdN C dX5_readOneJuror_72 2 rfl (2 * j) rfl (by omega) (by decide) ?_
        have hkd : kdF (n_ce (S + p)) = 1 := by simp [kdF, c2, c3]
        refine v_eqi (1) (upd_at) ?_
        refine v_bipush C (-9) dX5_readOneJuror_73 (by decide) ?_
        refine v_icmp_ne C 80 dX5_readOneJuror_75 (by decide) (fun _ => ?_) (fun h => absurd h (by decide))
        refine v_aload_n C dX5_readOneJuror_80 2 rfl ?_
        refine v_dup C dX5_readOneJuror_81 rfl ?_
        refine v_get C f_X5_84 dX5_readOneJuror_82 0 rfl rfl ?_
        refine v_iconst C 1 dX5_readOneJuror_85 (by decide) ?_
        refine v_iadd C dX5_readOneJuror_86 ?_
        refine v_eqi (nI (S + p + 1)) (nI_1 _) ?_
        refine v_put C p_X5_84 [oN b n_fa n_tr n_mi n_ju n_co n_cr (nI (S + p + 1)) n_rm (nI j) n_rc n_nw n_ov n_rl n_rd, ia (b 4) cI 240 n_ce, ia (b 20) cI 10 (upd n_rJ (2 * j) 1)] dX5_readOneJuror_87 0 rfl rfl rfl (Nat.le_of_ble_eq_true rfl) rfl ?_
        have hp0 : p < N := by omega
        have hR2 : RS (cw n_ce S) N (p + 1) := RS_go hR hp0 (by rw [hcf, hpj, go_j1, ← hpj]; show (!decide (kdF (n_ce (S + p)) = -9)) = true; rw [hkd]; decide)
        have hc2 : cfN (cw n_ce S) (p + 1) = none := cfN_none hcf (kd_ne (x := n_ce (S + p)) (by rw [hkd]; decide))
        have hgo2 : goB (cw n_ce S) (p + 1) (cfN (cw n_ce S) (p + 1)) = dgB (n_ce (S + p + 1)) 1 9 := by rw [hc2, hpj, go_j2]; rfl
        refine v_aload_n C dX5_readOneJuror_90 2 rfl ?_
        refine v_get C f_X5_41 dX5_readOneJuror_91 0 rfl rfl ?_
        refine v_iload_n C dX5_readOneJuror_94 1 rfl ?_
        refine v_iconst C 1 dX5_readOneJuror_95 (by decide) ?_
        refine v_iadd C dX5_readOneJuror_96 ?_
        refine v_eqi (nI (2 * j + 1)) (nI_1 _) ?_
        refine v_aload_n C dX5_readOneJuror_97 2 rfl ?_
        refine v_iload_n C dX5_readOneJuror_98 3 rfl ?_
        refine v_iconst C 1 dX5_readOneJuror_99 (by decide) ?_
        refine v_bipush C 9 dX5_readOneJuror_100 (by decide) ?_
        refine v_callMi C l_X5_136 (m_X5_digit b S N (p + 1) 1 9 n_fa n_tr n_mi n_ju n_co n_cr n_rm (nI j) n_rc n_nw n_ov n_rl n_rd n_ce 1 9 hSN (by omega) (by decide) (by decide) rfl rfl) (by decide) dX5_readOneJuror_102 [0, 1] [2] (wr := [ia (b 20) cI 10 (upd n_rJ (2 * j) 1)]) (by decide) rfl rfl (by decide) (by decide) 0 rfl rfl rfl (rest := [.int (nI (2 * j + 1)), .ref (b 20)]) rfl (Nat.le_of_ble_eq_true rfl) (by decide) (fun r12 w10 h11 => ?_)
        rcases h11 with ⟨hp13, hg13, d13, rfl, h113, h213, h313, rfl⟩ | ⟨hn13, rfl, rfl⟩
        · refine v_ws0 [ia (b 20) cI 10 (upd n_rJ (2 * j) 1), oN b n_fa n_tr n_mi n_ju n_co n_cr (nI (S + (p + 1) + 1)) n_rm (nI j) n_rc n_nw n_ov n_rl n_rd, ia (b 4) cI 240 n_ce] rfl ?_
          refine v_iastN C [ia (b 20) cI 10 (upd (upd n_rJ (2 * j) 1) (2 * j + 1) (nI d13)), oN b n_fa n_tr n_mi n_ju n_co n_cr (nI (S + (p + 1) + 1)) n_rm (nI j) n_rc n_nw n_ov n_rl n_rd, ia (b 4) cI 240 n_ce] dX5_readOneJuror_105 0 rfl (2 * j + 1) rfl (by omega) (by decide) rfl ?_
          refine v_aload_n C dX5_readOneJuror_106 2 rfl ?_
          refine v_dup C dX5_readOneJuror_107 rfl ?_
          refine v_get C f_X5_111 dX5_readOneJuror_108 1 rfl rfl ?_
          refine v_iconst C 1 dX5_readOneJuror_111 (by decide) ?_
          refine v_iadd C dX5_readOneJuror_112 ?_
          refine v_eqi (nI (j + 1)) (nI_1 _) ?_
          refine v_put C p_X5_111 [ia (b 20) cI 10 (upd (upd n_rJ (2 * j) 1) (2 * j + 1) (nI d13)), oN b n_fa n_tr n_mi n_ju n_co n_cr (nI (S + (p + 1) + 1)) n_rm (nI (j + 1)) n_rc n_nw n_ov n_rl n_rd, ia (b 4) cI 240 n_ce] dX5_readOneJuror_113 1 rfl rfl rfl (Nat.le_of_ble_eq_true rfl) rfl ?_
          refine v_aload_n C dX5_readOneJuror_116 2 rfl ?_
          refine v_get C f_X5_41 dX5_readOneJuror_117 1 rfl rfl ?_
          refine v_iload_n C dX5_readOneJuror_120 1 rfl ?_
          refine v_iconst C 1 dX5_readOneJuror_121 (by decide) ?_
          refine v_iadd C dX5_readOneJuror_122 ?_
          refine v_eqi (nI (2 * j + 1)) (nI_1 _) ?_
          refine v_ialdN C dX5_readOneJuror_123 0 rfl (2 * j + 1) rfl (by omega) (by decide) ?_
          refine v_eqi (nI d13) (upd_at) ?_
          refine v_bipush C (-9) dX5_readOneJuror_124 (by decide) ?_
          refine v_icmp_eq C 133 dX5_readOneJuror_126 (by decide) (fun c14 => ?_) (fun c14 => ?_)
          · exact absurd c14 (nI_ne9 (by omega))
          · refine v_iconst C 1 dX5_readOneJuror_129 (by decide) ?_
            refine v_goto C 134 dX5_readOneJuror_130 (by decide) ?_
            refine v_perm (ws' := [oN b n_fa n_tr n_mi n_ju n_co n_cr (nI (S + (p + 1) + 1)) n_rm (nI (j + 1)) n_rc n_nw n_ov n_rl n_rd, ia (b 4) cI 240 n_ce, ia (b 20) cI 10 (upd (upd n_rJ (2 * j) 1) (2 * j + 1) (nI d13))]) [1, 2, 0] (by decide) rfl ?_
            exact v_reti C hA dX5_readOneJuror_134 rfl (Or.inl ⟨rfl, RS_go hR2 hp13 (by rw [hgo2]; exact hg13), cfN_none hc2 (dg_ne h313 (by omega)), by rw [hkd, show n_ce (S + p + 1) - 48 = nI d13 from h313]; rfl⟩)
        · refine v_ws0 [ia (b 20) cI 10 (upd n_rJ (2 * j) 1), oN b n_fa n_tr n_mi n_ju n_co n_cr (nI (S + p + 1)) n_rm (nI j) n_rc n_nw n_ov n_rl n_rd, ia (b 4) cI 240 n_ce] rfl ?_
          refine v_iastN C [ia (b 20) cI 10 (upd (upd n_rJ (2 * j) 1) (2 * j + 1) (-9)), oN b n_fa n_tr n_mi n_ju n_co n_cr (nI (S + p + 1)) n_rm (nI j) n_rc n_nw n_ov n_rl n_rd, ia (b 4) cI 240 n_ce] dX5_readOneJuror_105 0 rfl (2 * j + 1) rfl (by omega) (by decide) rfl ?_
          refine v_aload_n C dX5_readOneJuror_106 2 rfl ?_
          refine v_dup C dX5_readOneJuror_107 rfl ?_
          refine v_get C f_X5_111 dX5_readOneJuror_108 1 rfl rfl ?_
          refine v_iconst C 1 dX5_readOneJuror_111 (by decide) ?_
          refine v_iadd C dX5_readOneJuror_112 ?_
          refine v_eqi (nI (j + 1)) (nI_1 _) ?_
          refine v_put C p_X5_111 [ia (b 20) cI 10 (upd (upd n_rJ (2 * j) 1) (2 * j + 1) (-9)), oN b n_fa n_tr n_mi n_ju n_co n_cr (nI (S + p + 1)) n_rm (nI (j + 1)) n_rc n_nw n_ov n_rl n_rd, ia (b 4) cI 240 n_ce] dX5_readOneJuror_113 1 rfl rfl rfl (Nat.le_of_ble_eq_true rfl) rfl ?_
          refine v_aload_n C dX5_readOneJuror_116 2 rfl ?_
          refine v_get C f_X5_41 dX5_readOneJuror_117 1 rfl rfl ?_
          refine v_iload_n C dX5_readOneJuror_120 1 rfl ?_
          refine v_iconst C 1 dX5_readOneJuror_121 (by decide) ?_
          refine v_iadd C dX5_readOneJuror_122 ?_
          refine v_eqi (nI (2 * j + 1)) (nI_1 _) ?_
          refine v_ialdN C dX5_readOneJuror_123 0 rfl (2 * j + 1) rfl (by omega) (by decide) ?_
          refine v_eqi ((-9)) (upd_at) ?_
          refine v_bipush C (-9) dX5_readOneJuror_124 (by decide) ?_
          refine v_icmp_eq C 133 dX5_readOneJuror_126 (by decide) (fun _ => ?_) (fun h => absurd h (by decide))
          refine v_iconst C 0 dX5_readOneJuror_133 (by decide) ?_
          refine v_perm (ws' := [oN b n_fa n_tr n_mi n_ju n_co n_cr (nI (S + p + 1)) n_rm (nI (j + 1)) n_rc n_nw n_ov n_rl n_rd, ia (b 4) cI 240 n_ce, ia (b 20) cI 10 (upd (upd n_rJ (2 * j) 1) (2 * j + 1) (-9))]) [1, 2, 0] (by decide) rfl ?_
          exact v_reti C hA dX5_readOneJuror_134 rfl (Or.inr ⟨rfl, p + 1, _, _, RS_fault hR2 (fun q => hn13 ⟨q.1, hgo2.symm.trans q.2⟩) (fun q => wh_none hc2 q), rfl⟩)
    · refine v_iconst C 0 dX5_readOneJuror_40 (by decide) ?_
      refine v_goto C 66 dX5_readOneJuror_41 (by decide) ?_
      refine v_iastN C [oN b n_fa n_tr n_mi n_ju n_co n_cr (nI (S + p)) n_rm (nI j) n_rc n_nw n_ov n_rl n_rd, ia (b 4) cI 240 n_ce, ia (b 20) cI 10 (upd n_rJ (2 * j) 0)] dX5_readOneJuror_66 2 rfl (2 * j) rfl (by omega) (by decide) rfl ?_
      refine v_aload_n C dX5_readOneJuror_67 2 rfl ?_
      refine v_get C f_X5_41 dX5_readOneJuror_68 0 rfl rfl ?_
      refine v_iload_n C dX5_readOneJuror_71 1 rfl ?_
      refine v_ialdN C dX5_readOneJuror_72 2 rfl (2 * j) rfl (by omega) (by decide) ?_
      have hkd : kdF (n_ce (S + p)) = 0 := by simp [kdF, c2]
      refine v_eqi (0) (upd_at) ?_
      refine v_bipush C (-9) dX5_readOneJuror_73 (by decide) ?_
      refine v_icmp_ne C 80 dX5_readOneJuror_75 (by decide) (fun _ => ?_) (fun h => absurd h (by decide))
      refine v_aload_n C dX5_readOneJuror_80 2 rfl ?_
      refine v_dup C dX5_readOneJuror_81 rfl ?_
      refine v_get C f_X5_84 dX5_readOneJuror_82 0 rfl rfl ?_
      refine v_iconst C 1 dX5_readOneJuror_85 (by decide) ?_
      refine v_iadd C dX5_readOneJuror_86 ?_
      refine v_eqi (nI (S + p + 1)) (nI_1 _) ?_
      refine v_put C p_X5_84 [oN b n_fa n_tr n_mi n_ju n_co n_cr (nI (S + p + 1)) n_rm (nI j) n_rc n_nw n_ov n_rl n_rd, ia (b 4) cI 240 n_ce, ia (b 20) cI 10 (upd n_rJ (2 * j) 0)] dX5_readOneJuror_87 0 rfl rfl rfl (Nat.le_of_ble_eq_true rfl) rfl ?_
      have hp0 : p < N := by omega
      have hR2 : RS (cw n_ce S) N (p + 1) := RS_go hR hp0 (by rw [hcf, hpj, go_j1, ← hpj]; show (!decide (kdF (n_ce (S + p)) = -9)) = true; rw [hkd]; decide)
      have hc2 : cfN (cw n_ce S) (p + 1) = none := cfN_none hcf (kd_ne (x := n_ce (S + p)) (by rw [hkd]; decide))
      have hgo2 : goB (cw n_ce S) (p + 1) (cfN (cw n_ce S) (p + 1)) = dgB (n_ce (S + p + 1)) 1 9 := by rw [hc2, hpj, go_j2]; rfl
      refine v_aload_n C dX5_readOneJuror_90 2 rfl ?_
      refine v_get C f_X5_41 dX5_readOneJuror_91 0 rfl rfl ?_
      refine v_iload_n C dX5_readOneJuror_94 1 rfl ?_
      refine v_iconst C 1 dX5_readOneJuror_95 (by decide) ?_
      refine v_iadd C dX5_readOneJuror_96 ?_
      refine v_eqi (nI (2 * j + 1)) (nI_1 _) ?_
      refine v_aload_n C dX5_readOneJuror_97 2 rfl ?_
      refine v_iload_n C dX5_readOneJuror_98 3 rfl ?_
      refine v_iconst C 1 dX5_readOneJuror_99 (by decide) ?_
      refine v_bipush C 9 dX5_readOneJuror_100 (by decide) ?_
      refine v_callMi C l_X5_136 (m_X5_digit b S N (p + 1) 1 9 n_fa n_tr n_mi n_ju n_co n_cr n_rm (nI j) n_rc n_nw n_ov n_rl n_rd n_ce 1 9 hSN (by omega) (by decide) (by decide) rfl rfl) (by decide) dX5_readOneJuror_102 [0, 1] [2] (wr := [ia (b 20) cI 10 (upd n_rJ (2 * j) 0)]) (by decide) rfl rfl (by decide) (by decide) 0 rfl rfl rfl (rest := [.int (nI (2 * j + 1)), .ref (b 20)]) rfl (Nat.le_of_ble_eq_true rfl) (by decide) (fun r17 w15 h16 => ?_)
      rcases h16 with ⟨hp18, hg18, d18, rfl, h118, h218, h318, rfl⟩ | ⟨hn18, rfl, rfl⟩
      · refine v_ws0 [ia (b 20) cI 10 (upd n_rJ (2 * j) 0), oN b n_fa n_tr n_mi n_ju n_co n_cr (nI (S + (p + 1) + 1)) n_rm (nI j) n_rc n_nw n_ov n_rl n_rd, ia (b 4) cI 240 n_ce] rfl ?_
        refine v_iastN C [ia (b 20) cI 10 (upd (upd n_rJ (2 * j) 0) (2 * j + 1) (nI d18)), oN b n_fa n_tr n_mi n_ju n_co n_cr (nI (S + (p + 1) + 1)) n_rm (nI j) n_rc n_nw n_ov n_rl n_rd, ia (b 4) cI 240 n_ce] dX5_readOneJuror_105 0 rfl (2 * j + 1) rfl (by omega) (by decide) rfl ?_
        refine v_aload_n C dX5_readOneJuror_106 2 rfl ?_
        refine v_dup C dX5_readOneJuror_107 rfl ?_
        refine v_get C f_X5_111 dX5_readOneJuror_108 1 rfl rfl ?_
        refine v_iconst C 1 dX5_readOneJuror_111 (by decide) ?_
        refine v_iadd C dX5_readOneJuror_112 ?_
        refine v_eqi (nI (j + 1)) (nI_1 _) ?_
        refine v_put C p_X5_111 [ia (b 20) cI 10 (upd (upd n_rJ (2 * j) 0) (2 * j + 1) (nI d18)), oN b n_fa n_tr n_mi n_ju n_co n_cr (nI (S + (p + 1) + 1)) n_rm (nI (j + 1)) n_rc n_nw n_ov n_rl n_rd, ia (b 4) cI 240 n_ce] dX5_readOneJuror_113 1 rfl rfl rfl (Nat.le_of_ble_eq_true rfl) rfl ?_
        refine v_aload_n C dX5_readOneJuror_116 2 rfl ?_
        refine v_get C f_X5_41 dX5_readOneJuror_117 1 rfl rfl ?_
        refine v_iload_n C dX5_readOneJuror_120 1 rfl ?_
        refine v_iconst C 1 dX5_readOneJuror_121 (by decide) ?_
        refine v_iadd C dX5_readOneJuror_122 ?_
        refine v_eqi (nI (2 * j + 1)) (nI_1 _) ?_
        refine v_ialdN C dX5_readOneJuror_123 0 rfl (2 * j + 1) rfl (by omega) (by decide) ?_
        refine v_eqi (nI d18) (upd_at) ?_
        refine v_bipush C (-9) dX5_readOneJuror_124 (by decide) ?_
        refine v_icmp_eq C 133 dX5_readOneJuror_126 (by decide) (fun c19 => ?_) (fun c19 => ?_)
        · exact absurd c19 (nI_ne9 (by omega))
        · refine v_iconst C 1 dX5_readOneJuror_129 (by decide) ?_
          refine v_goto C 134 dX5_readOneJuror_130 (by decide) ?_
          refine v_perm (ws' := [oN b n_fa n_tr n_mi n_ju n_co n_cr (nI (S + (p + 1) + 1)) n_rm (nI (j + 1)) n_rc n_nw n_ov n_rl n_rd, ia (b 4) cI 240 n_ce, ia (b 20) cI 10 (upd (upd n_rJ (2 * j) 0) (2 * j + 1) (nI d18))]) [1, 2, 0] (by decide) rfl ?_
          exact v_reti C hA dX5_readOneJuror_134 rfl (Or.inl ⟨rfl, RS_go hR2 hp18 (by rw [hgo2]; exact hg18), cfN_none hc2 (dg_ne h318 (by omega)), by rw [hkd, show n_ce (S + p + 1) - 48 = nI d18 from h318]; rfl⟩)
      · refine v_ws0 [ia (b 20) cI 10 (upd n_rJ (2 * j) 0), oN b n_fa n_tr n_mi n_ju n_co n_cr (nI (S + p + 1)) n_rm (nI j) n_rc n_nw n_ov n_rl n_rd, ia (b 4) cI 240 n_ce] rfl ?_
        refine v_iastN C [ia (b 20) cI 10 (upd (upd n_rJ (2 * j) 0) (2 * j + 1) (-9)), oN b n_fa n_tr n_mi n_ju n_co n_cr (nI (S + p + 1)) n_rm (nI j) n_rc n_nw n_ov n_rl n_rd, ia (b 4) cI 240 n_ce] dX5_readOneJuror_105 0 rfl (2 * j + 1) rfl (by omega) (by decide) rfl ?_
        refine v_aload_n C dX5_readOneJuror_106 2 rfl ?_
        refine v_dup C dX5_readOneJuror_107 rfl ?_
        refine v_get C f_X5_111 dX5_readOneJuror_108 1 rfl rfl ?_
        refine v_iconst C 1 dX5_readOneJuror_111 (by decide) ?_
        refine v_iadd C dX5_readOneJuror_112 ?_
        refine v_eqi (nI (j + 1)) (nI_1 _) ?_
        refine v_put C p_X5_111 [ia (b 20) cI 10 (upd (upd n_rJ (2 * j) 0) (2 * j + 1) (-9)), oN b n_fa n_tr n_mi n_ju n_co n_cr (nI (S + p + 1)) n_rm (nI (j + 1)) n_rc n_nw n_ov n_rl n_rd, ia (b 4) cI 240 n_ce] dX5_readOneJuror_113 1 rfl rfl rfl (Nat.le_of_ble_eq_true rfl) rfl ?_
        refine v_aload_n C dX5_readOneJuror_116 2 rfl ?_
        refine v_get C f_X5_41 dX5_readOneJuror_117 1 rfl rfl ?_
        refine v_iload_n C dX5_readOneJuror_120 1 rfl ?_
        refine v_iconst C 1 dX5_readOneJuror_121 (by decide) ?_
        refine v_iadd C dX5_readOneJuror_122 ?_
        refine v_eqi (nI (2 * j + 1)) (nI_1 _) ?_
        refine v_ialdN C dX5_readOneJuror_123 0 rfl (2 * j + 1) rfl (by omega) (by decide) ?_
        refine v_eqi ((-9)) (upd_at) ?_
        refine v_bipush C (-9) dX5_readOneJuror_124 (by decide) ?_
        refine v_icmp_eq C 133 dX5_readOneJuror_126 (by decide) (fun _ => ?_) (fun h => absurd h (by decide))
        refine v_iconst C 0 dX5_readOneJuror_133 (by decide) ?_
        refine v_perm (ws' := [oN b n_fa n_tr n_mi n_ju n_co n_cr (nI (S + p + 1)) n_rm (nI (j + 1)) n_rc n_nw n_ov n_rl n_rd, ia (b 4) cI 240 n_ce, ia (b 20) cI 10 (upd (upd n_rJ (2 * j) 0) (2 * j + 1) (-9))]) [1, 2, 0] (by decide) rfl ?_
        exact v_reti C hA dX5_readOneJuror_134 rfl (Or.inr ⟨rfl, p + 1, _, _, RS_fault hR2 (fun q => hn18 ⟨q.1, hgo2.symm.trans q.2⟩) (fun q => wh_none hc2 q), rfl⟩)
set_option maxHeartbeats 4000000 in
set_option maxRecDepth 100000 in
theorem m_X5_readOneCase {l : Launch} {D : va_G} {cI cB cS : ClassId} (b : Nat → Nat) (S N p e F : Nat) (n_fa : Int32) (n_tr : Int32) (n_mi : Int32) (n_ju : Int32) (n_co : Int32) (n_cr : Int32) (n_rm : Int32) (n_rj : Int32) (n_nw : Int32) (n_ov : Int32) (n_rl : Int32) (n_rd : Int32) (n_ce : Nat → Int32) (n_rK : Nat → Int32) (hSN : S + N ≤ 240) (hpN : p ≤ N) (he : e < 5) (hF3 : 3 ≤ F) (hpe : p = F + 4 * e + 1) (hR : RS (cw n_ce S) N p) (hcf : cfN (cw n_ce S) p = some F) : Mi l yX5_readOneCase cX5_readOneCase 4 (some .boolean) 2 45 D cI cB cS [.ref (b 0), .int (nI (S + N))] [oN b n_fa n_tr n_mi n_ju n_co n_cr (nI (S + p)) n_rm n_rj (nI e) n_nw n_ov n_rl n_rd, ia (b 4) cI 240 n_ce, ia (b 21) cI 15 n_rK] (fun r w => (r = 1 ∧ RS (cw n_ce S) N (p + 3) ∧ cfN (cw n_ce S) (p + 3) = some F ∧ w = [oN b n_fa n_tr n_mi n_ju n_co n_cr (nI (S + (p + 3))) n_rm n_rj (nI (e + 1)) n_nw n_ov n_rl n_rd, ia (b 4) cI 240 n_ce, ia (b 21) cI 15 (upd (upd (upd n_rK (3 * e) (n_ce (S + p) - 48)) (3 * e + 1) (n_ce (S + p + 1) - 48)) (3 * e + 2) (n_ce (S + p + 2) - 48))]) ∨ (r = 0 ∧ ∃ (pz : Nat) (rc' : Int32) (rK' : Nat → Int32), ffF (cw n_ce S) N = some pz ∧ w = [oN b n_fa n_tr n_mi n_ju n_co n_cr (nI (S + pz)) n_rm n_rj rc' n_nw n_ov n_rl n_rd, ia (b 4) cI 240 n_ce, ia (b 21) cI 15 rK'])) := by
  refine Mi.of (by decide) (Nat.le_of_ble_eq_true rfl) ?_
  intro zp ze zs zm zb zt zc zz zA hA C hnm
  refine v_lv0 [(0, .ref (b 0)), (1, .int (nI (S + N)))] rfl ?_
  refine v_iconst C 0 dX5_readOneCase_0 (by decide) ?_
  refine v_istore_n C [(2, .int 0), (0, .ref (b 0)), (1, .int (nI (S + N)))] dX5_readOneCase_1 (by decide) rfl ?_
  have hgo0 : goB (cw n_ce S) (p) (cfN (cw n_ce S) (p)) = dgB (n_ce (S + (p))) 0 5 := by rw [hcf, hpe, go_c0 hF3]; rfl
  refine v_iload_n C dX5_readOneCase_2 0 rfl ?_
  refine v_iconst C 3 dX5_readOneCase_3 (by decide) ?_
  refine v_icmp_ge C 60 dX5_readOneCase_4 (by decide) (fun h => absurd h (by decide)) (fun _ => ?_)
  refine v_aload_n C dX5_readOneCase_7 1 rfl ?_
  refine v_iload_n C dX5_readOneCase_8 2 rfl ?_
  refine v_iload_n C dX5_readOneCase_9 0 rfl ?_
  refine v_if_ne C 17 dX5_readOneCase_10 (by decide) (fun h => absurd h (by decide)) (fun _ => ?_)
  refine v_iconst C 0 dX5_readOneCase_13 (by decide) ?_
  refine v_goto C 18 dX5_readOneCase_14 (by decide) ?_
  refine v_iload_n C dX5_readOneCase_18 0 rfl ?_
  refine v_if_ne C 26 dX5_readOneCase_19 (by decide) (fun h => absurd h (by decide)) (fun _ => ?_)
  refine v_iconst C 5 dX5_readOneCase_22 (by decide) ?_
  refine v_goto C 28 dX5_readOneCase_23 (by decide) ?_
  refine v_callMi C l_X5_136 (m_X5_digit b S N p 0 5 n_fa n_tr n_mi n_ju n_co n_cr n_rm n_rj (nI e) n_nw n_ov n_rl n_rd n_ce 0 5 hSN (by omega) (by decide) (by decide) rfl rfl) (by decide) dX5_readOneCase_28 [0, 1] [2] (wr := [ia (b 21) cI 15 n_rK]) (by decide) rfl rfl (by decide) (by decide) 0 rfl rfl rfl (rest := []) rfl (Nat.le_of_ble_eq_true rfl) (by decide) (fun r3 w1 h2 => ?_)
  rcases h2 with ⟨hp4, hg4, d4, rfl, h14, h24, h34, rfl⟩ | ⟨hn4, rfl, rfl⟩
  · refine v_ws0 [ia (b 21) cI 15 n_rK, oN b n_fa n_tr n_mi n_ju n_co n_cr (nI (S + p + 1)) n_rm n_rj (nI e) n_nw n_ov n_rl n_rd, ia (b 4) cI 240 n_ce] rfl ?_
    refine v_istore_n C [(3, .int (nI d4)), (2, .int 0), (0, .ref (b 0)), (1, .int (nI (S + N)))] dX5_readOneCase_31 (by decide) rfl ?_
    refine v_iload_n C dX5_readOneCase_32 0 rfl ?_
    refine v_bipush C (-9) dX5_readOneCase_33 (by decide) ?_
    refine v_icmp_ne C 40 dX5_readOneCase_35 (by decide) (fun c5 => ?_) (fun c5 => ?_)
    · refine v_aload_n C dX5_readOneCase_40 2 rfl ?_
      refine v_get C f_X5_44 dX5_readOneCase_41 1 rfl rfl ?_
      refine v_iconst C 3 dX5_readOneCase_44 (by decide) ?_
      refine v_aload_n C dX5_readOneCase_45 2 rfl ?_
      refine v_get C f_X5_114 dX5_readOneCase_46 1 rfl rfl ?_
      refine v_imul C dX5_readOneCase_49 ?_
      refine v_eqi (nI (3 * e)) (pk_mul 3 e) ?_
      refine v_iload_n C dX5_readOneCase_50 1 rfl ?_
      refine v_iadd C dX5_readOneCase_51 ?_
      refine v_eqi (nI (3 * e + 0)) (nI_add (3 * e) 0) ?_
      refine v_iload_n C dX5_readOneCase_52 0 rfl ?_
      refine v_iastN C [ia (b 21) cI 15 (upd n_rK (3 * e + 0) (nI d4)), oN b n_fa n_tr n_mi n_ju n_co n_cr (nI (S + p + 1)) n_rm n_rj (nI e) n_nw n_ov n_rl n_rd, ia (b 4) cI 240 n_ce] dX5_readOneCase_53 0 rfl (3 * e + 0) rfl (by omega) (by decide) rfl ?_
      refine v_iinc C (0 + 1) [(2, .int (0 + 1)), (3, .int (nI d4)), (0, .ref (b 0)), (1, .int (nI (S + N)))] 1 dX5_readOneCase_54 rfl (rfl) (by decide) rfl ?_
      refine v_goto C 2 dX5_readOneCase_57 (by decide) ?_
      refine v_lv0 [(2, .int 1), (3, .int (nI d4)), (0, .ref (b 0)), (1, .int (nI (S + N)))] (rfl) ?_
      have hR1 : RS (cw n_ce S) N (p + 1) := RS_go hR hp4 (by rw [hgo0]; exact hg4)
      have hc1 : cfN (cw n_ce S) (p + 1) = some F := cfN_some hcf
      have hgo1 : goB (cw n_ce S) (p + 1) (cfN (cw n_ce S) (p + 1)) = dgB (n_ce (S + (p + 1))) 1 9 := by rw [hc1, hpe, go_c1 hF3]; rfl
      refine v_iload_n C dX5_readOneCase_2 0 rfl ?_
      refine v_iconst C 3 dX5_readOneCase_3 (by decide) ?_
      refine v_icmp_ge C 60 dX5_readOneCase_4 (by decide) (fun h => absurd h (by decide)) (fun _ => ?_)
      refine v_aload_n C dX5_readOneCase_7 2 rfl ?_
      refine v_iload_n C dX5_readOneCase_8 3 rfl ?_
      refine v_iload_n C dX5_readOneCase_9 0 rfl ?_
      refine v_if_ne C 17 dX5_readOneCase_10 (by decide) (fun _ => ?_) (fun h => absurd h (by decide))
      refine v_iconst C 1 dX5_readOneCase_17 (by decide) ?_
      refine v_iload_n C dX5_readOneCase_18 0 rfl ?_
      refine v_if_ne C 26 dX5_readOneCase_19 (by decide) (fun _ => ?_) (fun h => absurd h (by decide))
      refine v_bipush C 9 dX5_readOneCase_26 (by decide) ?_
      refine v_callMi C l_X5_136 (m_X5_digit b S N (p + 1) 1 9 n_fa n_tr n_mi n_ju n_co n_cr n_rm n_rj (nI e) n_nw n_ov n_rl n_rd n_ce 1 9 hSN (by omega) (by decide) (by decide) rfl rfl) (by decide) dX5_readOneCase_28 [1, 2] [0] (wr := [ia (b 21) cI 15 (upd n_rK (3 * e + 0) (nI d4))]) (by decide) rfl rfl (by decide) (by decide) 1 rfl rfl rfl (rest := []) rfl (Nat.le_of_ble_eq_true rfl) (by decide) (fun r8 w6 h7 => ?_)
      rcases h7 with ⟨hp9, hg9, d9, rfl, h19, h29, h39, rfl⟩ | ⟨hn9, rfl, rfl⟩
      · refine v_ws0 [ia (b 21) cI 15 (upd n_rK (3 * e + 0) (nI d4)), oN b n_fa n_tr n_mi n_ju n_co n_cr (nI (S + (p + 1) + 1)) n_rm n_rj (nI e) n_nw n_ov n_rl n_rd, ia (b 4) cI 240 n_ce] rfl ?_
        refine v_istore_n C [(3, .int (nI d9)), (2, .int 1), (0, .ref (b 0)), (1, .int (nI (S + N)))] dX5_readOneCase_31 (by decide) rfl ?_
        refine v_iload_n C dX5_readOneCase_32 0 rfl ?_
        refine v_bipush C (-9) dX5_readOneCase_33 (by decide) ?_
        refine v_icmp_ne C 40 dX5_readOneCase_35 (by decide) (fun c10 => ?_) (fun c10 => ?_)
        · refine v_aload_n C dX5_readOneCase_40 2 rfl ?_
          refine v_get C f_X5_44 dX5_readOneCase_41 1 rfl rfl ?_
          refine v_iconst C 3 dX5_readOneCase_44 (by decide) ?_
          refine v_aload_n C dX5_readOneCase_45 2 rfl ?_
          refine v_get C f_X5_114 dX5_readOneCase_46 1 rfl rfl ?_
          refine v_imul C dX5_readOneCase_49 ?_
          refine v_eqi (nI (3 * e)) (pk_mul 3 e) ?_
          refine v_iload_n C dX5_readOneCase_50 1 rfl ?_
          refine v_iadd C dX5_readOneCase_51 ?_
          refine v_eqi (nI (3 * e + 1)) (nI_add (3 * e) 1) ?_
          refine v_iload_n C dX5_readOneCase_52 0 rfl ?_
          refine v_iastN C [ia (b 21) cI 15 (upd (upd n_rK (3 * e + 0) (nI d4)) (3 * e + 1) (nI d9)), oN b n_fa n_tr n_mi n_ju n_co n_cr (nI (S + (p + 1) + 1)) n_rm n_rj (nI e) n_nw n_ov n_rl n_rd, ia (b 4) cI 240 n_ce] dX5_readOneCase_53 0 rfl (3 * e + 1) rfl (by omega) (by decide) rfl ?_
          refine v_iinc C (1 + 1) [(2, .int (1 + 1)), (3, .int (nI d9)), (0, .ref (b 0)), (1, .int (nI (S + N)))] 1 dX5_readOneCase_54 rfl (rfl) (by decide) rfl ?_
          refine v_goto C 2 dX5_readOneCase_57 (by decide) ?_
          refine v_lv0 [(2, .int 2), (3, .int (nI d9)), (0, .ref (b 0)), (1, .int (nI (S + N)))] (rfl) ?_
          have hR2 : RS (cw n_ce S) N (p + 2) := RS_go hR1 hp9 (by rw [hgo1]; exact hg9)
          have hc2 : cfN (cw n_ce S) (p + 2) = some F := cfN_some hc1
          have hgo2 : goB (cw n_ce S) (p + 2) (cfN (cw n_ce S) (p + 2)) = dgB (n_ce (S + (p + 2))) 1 9 := by rw [hc2, hpe, go_c2 hF3]; rfl
          refine v_iload_n C dX5_readOneCase_2 0 rfl ?_
          refine v_iconst C 3 dX5_readOneCase_3 (by decide) ?_
          refine v_icmp_ge C 60 dX5_readOneCase_4 (by decide) (fun h => absurd h (by decide)) (fun _ => ?_)
          refine v_aload_n C dX5_readOneCase_7 2 rfl ?_
          refine v_iload_n C dX5_readOneCase_8 3 rfl ?_
          refine v_iload_n C dX5_readOneCase_9 0 rfl ?_
          refine v_if_ne C 17 dX5_readOneCase_10 (by decide) (fun _ => ?_) (fun h => absurd h (by decide))
          refine v_iconst C 1 dX5_readOneCase_17 (by decide) ?_
          refine v_iload_n C dX5_readOneCase_18 0 rfl ?_
          refine v_if_ne C 26 dX5_readOneCase_19 (by decide) (fun _ => ?_) (fun h => absurd h (by decide))
          refine v_bipush C 9 dX5_readOneCase_26 (by decide) ?_
          refine v_callMi C l_X5_136 (m_X5_digit b S N (p + 2) 1 9 n_fa n_tr n_mi n_ju n_co n_cr n_rm n_rj (nI e) n_nw n_ov n_rl n_rd n_ce 1 9 hSN (by omega) (by decide) (by decide) rfl rfl) (by decide) dX5_readOneCase_28 [1, 2] [0] (wr := [ia (b 21) cI 15 (upd (upd n_rK (3 * e + 0) (nI d4)) (3 * e + 1) (nI d9))]) (by decide) rfl rfl (by decide) (by decide) 1 rfl rfl rfl (rest := []) rfl (Nat.le_of_ble_eq_true rfl) (by decide) (fun r13 w11 h12 => ?_)
          rcases h12 with ⟨hp14, hg14, d14, rfl, h114, h214, h314, rfl⟩ | ⟨hn14, rfl, rfl⟩
          · refine v_ws0 [ia (b 21) cI 15 (upd (upd n_rK (3 * e + 0) (nI d4)) (3 * e + 1) (nI d9)), oN b n_fa n_tr n_mi n_ju n_co n_cr (nI (S + (p + 2) + 1)) n_rm n_rj (nI e) n_nw n_ov n_rl n_rd, ia (b 4) cI 240 n_ce] rfl ?_
            refine v_istore_n C [(3, .int (nI d14)), (2, .int 2), (0, .ref (b 0)), (1, .int (nI (S + N)))] dX5_readOneCase_31 (by decide) rfl ?_
            refine v_iload_n C dX5_readOneCase_32 0 rfl ?_
            refine v_bipush C (-9) dX5_readOneCase_33 (by decide) ?_
            refine v_icmp_ne C 40 dX5_readOneCase_35 (by decide) (fun c15 => ?_) (fun c15 => ?_)
            · refine v_aload_n C dX5_readOneCase_40 2 rfl ?_
              refine v_get C f_X5_44 dX5_readOneCase_41 1 rfl rfl ?_
              refine v_iconst C 3 dX5_readOneCase_44 (by decide) ?_
              refine v_aload_n C dX5_readOneCase_45 2 rfl ?_
              refine v_get C f_X5_114 dX5_readOneCase_46 1 rfl rfl ?_
              refine v_imul C dX5_readOneCase_49 ?_
              refine v_eqi (nI (3 * e)) (pk_mul 3 e) ?_
              refine v_iload_n C dX5_readOneCase_50 1 rfl ?_
              refine v_iadd C dX5_readOneCase_51 ?_
              refine v_eqi (nI (3 * e + 2)) (nI_add (3 * e) 2) ?_
              refine v_iload_n C dX5_readOneCase_52 0 rfl ?_
              refine v_iastN C [ia (b 21) cI 15 (upd (upd (upd n_rK (3 * e + 0) (nI d4)) (3 * e + 1) (nI d9)) (3 * e + 2) (nI d14)), oN b n_fa n_tr n_mi n_ju n_co n_cr (nI (S + (p + 2) + 1)) n_rm n_rj (nI e) n_nw n_ov n_rl n_rd, ia (b 4) cI 240 n_ce] dX5_readOneCase_53 0 rfl (3 * e + 2) rfl (by omega) (by decide) rfl ?_
              refine v_iinc C (2 + 1) [(2, .int (2 + 1)), (3, .int (nI d14)), (0, .ref (b 0)), (1, .int (nI (S + N)))] 1 dX5_readOneCase_54 rfl (rfl) (by decide) rfl ?_
              refine v_goto C 2 dX5_readOneCase_57 (by decide) ?_
              refine v_lv0 [(2, .int 3), (3, .int (nI d14)), (0, .ref (b 0)), (1, .int (nI (S + N)))] (rfl) ?_
              have hR3 : RS (cw n_ce S) N (p + 3) := RS_go hR2 hp14 (by rw [hgo2]; exact hg14)
              have hc3 : cfN (cw n_ce S) (p + 3) = some F := cfN_some hc2
              refine v_iload_n C dX5_readOneCase_2 0 rfl ?_
              refine v_iconst C 3 dX5_readOneCase_3 (by decide) ?_
              refine v_icmp_ge C 60 dX5_readOneCase_4 (by decide) (fun _ => ?_) (fun h => absurd h (by decide))
              refine v_aload_n C dX5_readOneCase_60 2 rfl ?_
              refine v_dup C dX5_readOneCase_61 rfl ?_
              refine v_get C f_X5_114 dX5_readOneCase_62 1 rfl rfl ?_
              refine v_iconst C 1 dX5_readOneCase_65 (by decide) ?_
              refine v_iadd C dX5_readOneCase_66 ?_
              refine v_eqi (nI (e + 1)) (nI_1 _) ?_
              refine v_put C p_X5_114 [ia (b 21) cI 15 (upd (upd (upd n_rK (3 * e + 0) (nI d4)) (3 * e + 1) (nI d9)) (3 * e + 2) (nI d14)), oN b n_fa n_tr n_mi n_ju n_co n_cr (nI (S + (p + 2) + 1)) n_rm n_rj (nI (e + 1)) n_nw n_ov n_rl n_rd, ia (b 4) cI 240 n_ce] dX5_readOneCase_67 1 rfl rfl rfl (Nat.le_of_ble_eq_true rfl) rfl ?_
              refine v_iconst C 1 dX5_readOneCase_70 (by decide) ?_
              refine v_perm (ws' := [oN b n_fa n_tr n_mi n_ju n_co n_cr (nI (S + (p + 2) + 1)) n_rm n_rj (nI (e + 1)) n_nw n_ov n_rl n_rd, ia (b 4) cI 240 n_ce, ia (b 21) cI 15 (upd (upd (upd n_rK (3 * e + 0) (nI d4)) (3 * e + 1) (nI d9)) (3 * e + 2) (nI d14))]) [1, 2, 0] (by decide) rfl ?_
              exact v_reti C hA dX5_readOneCase_71 rfl (Or.inl ⟨rfl, hR3, hc3, by rw [show n_ce (S + p) - 48 = nI d4 from h34, show n_ce (S + p + 1) - 48 = nI d9 from h39, show n_ce (S + p + 2) - 48 = nI d14 from h314]; rfl⟩)
            · exact absurd c15 (nI_ne9 (by omega))
          · refine v_ws0 [ia (b 21) cI 15 (upd (upd n_rK (3 * e + 0) (nI d4)) (3 * e + 1) (nI d9)), oN b n_fa n_tr n_mi n_ju n_co n_cr (nI (S + (p + 1) + 1)) n_rm n_rj (nI e) n_nw n_ov n_rl n_rd, ia (b 4) cI 240 n_ce] rfl ?_
            refine v_istore_n C [(3, .int (-9)), (2, .int 2), (0, .ref (b 0)), (1, .int (nI (S + N)))] dX5_readOneCase_31 (by decide) rfl ?_
            refine v_iload_n C dX5_readOneCase_32 0 rfl ?_
            refine v_bipush C (-9) dX5_readOneCase_33 (by decide) ?_
            refine v_icmp_ne C 40 dX5_readOneCase_35 (by decide) (fun h => absurd h (by decide)) (fun _ => ?_)
            refine v_iconst C 0 dX5_readOneCase_38 (by decide) ?_
            refine v_perm (ws' := [oN b n_fa n_tr n_mi n_ju n_co n_cr (nI (S + (p + 1) + 1)) n_rm n_rj (nI e) n_nw n_ov n_rl n_rd, ia (b 4) cI 240 n_ce, ia (b 21) cI 15 (upd (upd n_rK (3 * e + 0) (nI d4)) (3 * e + 1) (nI d9))]) [1, 2, 0] (by decide) rfl ?_
            exact v_reti C hA dX5_readOneCase_39 rfl (Or.inr ⟨rfl, p + 2, _, _, RS_fault hR2 (fun q => hn14 ⟨q.1, hgo2.symm.trans q.2⟩) (fun q => wh_mid hc2 (by omega) q), rfl⟩)
        · exact absurd c10 (nI_ne9 (by omega))
      · refine v_ws0 [ia (b 21) cI 15 (upd n_rK (3 * e + 0) (nI d4)), oN b n_fa n_tr n_mi n_ju n_co n_cr (nI (S + p + 1)) n_rm n_rj (nI e) n_nw n_ov n_rl n_rd, ia (b 4) cI 240 n_ce] rfl ?_
        refine v_istore_n C [(3, .int (-9)), (2, .int 1), (0, .ref (b 0)), (1, .int (nI (S + N)))] dX5_readOneCase_31 (by decide) rfl ?_
        refine v_iload_n C dX5_readOneCase_32 0 rfl ?_
        refine v_bipush C (-9) dX5_readOneCase_33 (by decide) ?_
        refine v_icmp_ne C 40 dX5_readOneCase_35 (by decide) (fun h => absurd h (by decide)) (fun _ => ?_)
        refine v_iconst C 0 dX5_readOneCase_38 (by decide) ?_
        refine v_perm (ws' := [oN b n_fa n_tr n_mi n_ju n_co n_cr (nI (S + p + 1)) n_rm n_rj (nI e) n_nw n_ov n_rl n_rd, ia (b 4) cI 240 n_ce, ia (b 21) cI 15 (upd n_rK (3 * e + 0) (nI d4))]) [1, 2, 0] (by decide) rfl ?_
        exact v_reti C hA dX5_readOneCase_39 rfl (Or.inr ⟨rfl, p + 1, _, _, RS_fault hR1 (fun q => hn9 ⟨q.1, hgo1.symm.trans q.2⟩) (fun q => wh_mid hc1 (by omega) q), rfl⟩)
    · exact absurd c5 (nI_ne9 (by omega))
  · refine v_ws0 [ia (b 21) cI 15 n_rK, oN b n_fa n_tr n_mi n_ju n_co n_cr (nI (S + p)) n_rm n_rj (nI e) n_nw n_ov n_rl n_rd, ia (b 4) cI 240 n_ce] rfl ?_
    refine v_istore_n C [(3, .int (-9)), (2, .int 0), (0, .ref (b 0)), (1, .int (nI (S + N)))] dX5_readOneCase_31 (by decide) rfl ?_
    refine v_iload_n C dX5_readOneCase_32 0 rfl ?_
    refine v_bipush C (-9) dX5_readOneCase_33 (by decide) ?_
    refine v_icmp_ne C 40 dX5_readOneCase_35 (by decide) (fun h => absurd h (by decide)) (fun _ => ?_)
    refine v_iconst C 0 dX5_readOneCase_38 (by decide) ?_
    refine v_perm (ws' := [oN b n_fa n_tr n_mi n_ju n_co n_cr (nI (S + p)) n_rm n_rj (nI e) n_nw n_ov n_rl n_rd, ia (b 4) cI 240 n_ce, ia (b 21) cI 15 n_rK]) [1, 2, 0] (by decide) rfl ?_
    exact v_reti C hA dX5_readOneCase_39 rfl (Or.inr ⟨rfl, p, _, _, RS_fault hR (fun q => hn4 ⟨q.1, hgo0.symm.trans q.2⟩) (fun q => wh_mid hcf (by omega) q), rfl⟩)
