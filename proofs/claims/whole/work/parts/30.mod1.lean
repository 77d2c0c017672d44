/-! the model's rows beside the sets and sittings -/
def wib (v le mo : Int32) : Bool := !decide (v < le) && !decide (mo < v)
theorem wib_iff (v le mo : Int32) : wib v le mo = true ↔ ¬ v < le ∧ ¬ mo < v := by simp [wib]
theorem wib_S (k : Int32) : wib k 0 3 = vSb k := by
  have h : (3 : Int32) < k ↔ (4 : Int32) ≤ k := by
    rw [Int32.lt_iff_toInt_lt, Int32.le_iff_toInt_le]
    have e3 : (3 : Int32).toInt = 3 := by decide
    have e4 : (4 : Int32).toInt = 4 := by decide
    rw [e3, e4]
    omega
  unfold wib vSb
  rw [decide_eq_decide.mpr h]
theorem wib_L (k : Int32) : wib k 0 2 = vLb k := rfl
def bA (m j : Nat) : Int32 := if m.testBit j = true then 1 else 0
theorem bA_0 {m j : Nat} : bA m j = 0 ↔ m.testBit j = false := by
  unfold bA
  cases m.testBit j <;> simp
theorem bA_n {m j : Nat} : (¬ bA m j = 0) ↔ m.testBit j = true := by
  unfold bA
  cases m.testBit j <;> simp
def agF (so sl x i n : Int32) : Int32 := if ¬ so = -9 ∧ ¬ so = x then 2 else if so = -9 then 1 else if 0 ≤ n then (if i < 0 ∨ sl < i ∨ ¬ n ≤ sl - i then 3 else 0) else 4
def EA (nj s0 : Nat) (u : Nat → Bool) (iE : Nat → Int32) : Prop := ∀ j, j < nj → (iE j = 0 ∨ iE j = 1) ∧ u j = (s0.testBit j && decide (iE j = 0))
theorem EA_go {nj s0 un st i : Nat} {kd iE : Nat → Int32} (hi : i < nj) (h : EA nj s0 (unBi kd un st i) iE) : ((¬ bA s0 i = 0) ∧ iE i = 0) ↔ un.testBit i = true := by
  have q := (h i hi).2
  unfold unBi at q
  rw [if_neg (Nat.lt_irrefl i)] at q
  rw [q, bA_n]
  simp
theorem EA_skip {nj s0 un st i : Nat} {kd iE : Nat → Int32} (hv : unB kd un st i = un.testBit i) (h : EA nj s0 (unBi kd un st i) iE) : EA nj s0 (unBi kd un st (i + 1)) iE := by
  intro j hj
  refine ⟨(h j hj).1, ?_⟩
  rw [← (h j hj).2]
  unfold unBi
  by_cases h1 : j < i
  · simp [h1, Nat.lt_succ_of_lt h1]
  · by_cases h2 : j = i
    · subst h2; simp [hv]
    · have : ¬ j < i + 1 := by omega
      simp [h1, this]
theorem EA_eat {nj s0 un st i : Nat} {kd iE : Nat → Int32} (hv : unB kd un st i = false) (h : EA nj s0 (unBi kd un st i) iE) : EA nj s0 (unBi kd un st (i + 1)) (upd iE i 1) := by
  intro j hj
  unfold upd
  by_cases h2 : j = i
  · subst h2
    simp [unBi, hv]
  · simp only [h2, if_false]
    refine ⟨(h j hj).1, ?_⟩
    rw [← (h j hj).2]
    unfold unBi
    by_cases h1 : j < i
    · simp [h1, Nat.lt_succ_of_lt h1]
    · have : ¬ j < i + 1 := by omega
      simp [h1, this]
theorem EA_vote {nj s0 un st i : Nat} {kd iE hS : Nat → Int32} (hi : i < nj) (hh : hS i = bA s0 i) (hv : voB st i = true) (h : EA nj s0 (unBi kd un st i) iE) : EA nj s0 (unBi kd un st (i + 1)) (if kd i = 2 ∧ ¬ hS i = 0 ∧ iE i = 0 then upd iE i 1 else iE) := by
  have hg := EA_go hi h
  rw [hh]
  by_cases hc : kd i = 2 ∧ ¬ bA s0 i = 0 ∧ iE i = 0
  · rw [if_pos hc]
    exact EA_eat (by simp [unB, hv, hc.1]) h
  · rw [if_neg hc]
    apply EA_skip _ h
    unfold unB
    by_cases h2 : kd i = 2
    · have : un.testBit i = false := by
        cases hb : un.testBit i
        · rfl
        · exact absurd ⟨h2, hg.mpr hb⟩ hc
      simp [this]
    · simp [h2]
theorem EA_0 {nj s0 un st : Nat} {kd iE : Nat → Int32} (h : EA nj s0 un.testBit iE) : EA nj s0 (unBi kd un st 0) iE := fun j hj => by
  have q := h j hj
  simpa [unBi] using q
theorem EA_end {nj s0 un st : Nat} {kd iE : Nat → Int32} (h : EA nj s0 (unBi kd un st nj) iE) : EA nj s0 (unF nj kd un st).testBit iE := fun j hj => by
  have q := h j hj
  refine ⟨q.1, ?_⟩
  rw [← q.2, unF, mk_bit]
  simp [hj, unBi]
def SM (nj nc s0 : Nat) (q : SitT) (nw ov : Int32) (ho vd iE : Nat → Int32) : Prop := nw = q.2.2.2.1 ∧ ov = bI (q.2.2.2.2.2 = true) ∧ (∀ c, c < nc → ho c = q.1 c) ∧ (∀ d, d < 6 → vd d = q.2.1 d) ∧ EA nj s0 q.2.2.1.testBit iE
theorem up_eq {f g : Nat → Int32} {n c : Nat} {x : Int32} (h : ∀ j, j < n → f j = g j) : ∀ j, j < n → upd f c x j = upd g c x j := by
  intro j hj
  unfold upd
  split
  · rfl
  · exact h j hj
theorem SM_home {nj nc s0 : Nat} {tk ag : Nat → Int32} {st lw : Nat} {dn : Nat → Nat} {ta we : Nat → Int32} {si : Int32} {q : SitT} {c : Nat} {nw ov : Int32} {ho vd iE : Nat → Int32} (h : SM nj nc s0 q nw ov ho vd iE) (hh : q.2.2.2.2.2 = true ∨ ¬ q.2.2.2.1 + (if q.2.1 (dn c) = -9 then ta c else 1) ≤ si) : SM nj nc s0 (sitStep nj tk ag st lw dn ta we si q c) nw 1 (upd ho c 2) vd iE := by
  obtain ⟨h1, h2, h3, h4, h5⟩ := h
  rw [sitStep, if_pos hh]
  exact ⟨h1, rfl, up_eq h3, h4, h5⟩
theorem SM_first {nj nc s0 : Nat} {tk ag : Nat → Int32} {st lw : Nat} {dn : Nat → Nat} {ta we : Nat → Int32} {si : Int32} {q : SitT} {c : Nat} {nw ov : Int32} {ho vd iE iE' : Nat → Int32} (h : SM nj nc s0 q nw ov ho vd iE) (hh : ¬ (q.2.2.2.2.2 = true ∨ ¬ q.2.2.2.1 + (if q.2.1 (dn c) = -9 then ta c else 1) ≤ si)) (hf : q.2.1 (dn c) = -9) (he : EA nj s0 (unF nj tk q.2.2.1 st).testBit iE') : SM nj nc s0 (sitStep nj tk ag st lw dn ta we si q c) (nw + ta c) 0 (upd ho c (vdF nj tk ag q.2.2.1 st (lw.testBit (dn c)) (nw + ta c))) (upd vd (dn c) (vdF nj tk ag q.2.2.1 st (lw.testBit (dn c)) (nw + ta c))) iE' := by
  obtain ⟨h1, h2, h3, h4, h5⟩ := h
  rw [sitStep, if_neg hh, if_pos hf]
  refine ⟨by rw [h1], rfl, ?_, ?_, he⟩
  · rw [h1]; exact up_eq h3
  · rw [h1]; exact up_eq h4
theorem SM_again {nj nc s0 : Nat} {tk ag : Nat → Int32} {st lw : Nat} {dn : Nat → Nat} {ta we : Nat → Int32} {si : Int32} {q : SitT} {c : Nat} {nw ov : Int32} {ho vd iE : Nat → Int32} (h : SM nj nc s0 q nw ov ho vd iE) (hh : ¬ (q.2.2.2.2.2 = true ∨ ¬ q.2.2.2.1 + (if q.2.1 (dn c) = -9 then ta c else 1) ≤ si)) (hf : ¬ q.2.1 (dn c) = -9) (hd : dn c < 6) : SM nj nc s0 (sitStep nj tk ag st lw dn ta we si q c) (nw + 1) 0 (upd ho c (vd (dn c))) (upd vd (dn c) (vd (dn c))) iE := by
  obtain ⟨h1, h2, h3, h4, h5⟩ := h
  rw [sitStep, if_neg hh, if_neg hf]
  refine ⟨by rw [h1], rfl, ?_, ?_, h5⟩
  · rw [h4 _ hd]; exact up_eq h3
  · intro d hd'
    unfold upd
    split
    · rename_i e; rw [e]; exact h4 _ hd
    · exact h4 d hd'
/-- the weights of all that are guilty -/
def seS (ho we : Nat → Int32) : Nat → Int32
  | 0 => 0
  | c + 1 => seS ho we c + (if ho c = 1 then we c else 0)
theorem seS_cong {f g we : Nat → Int32} : ∀ {n : Nat}, (∀ c, c < n → f c = g c) → seS f we n = seS g we n
  | 0, _ => rfl
  | n + 1, h => by rw [seS, seS, seS_cong (fun c hc => h c (by omega)), h n (by omega)]
theorem seS_upd {f we : Nat → Int32} {c : Nat} {x : Int32} (hf : f c = -9) : ∀ {n : Nat}, c < n → seS (upd f c x) we n = seS f we n + (if x = 1 then we c else 0)
  | 0, h => absurd h (by omega)
  | n + 1, h => by
    rw [seS, seS]
    by_cases e : c = n
    · subst e
      rw [upd_at, hf, seS_cong (g := f) (fun d hd => by unfold upd; rw [if_neg (by omega)])]
      simp
    · rw [seS_upd hf (by omega : c < n)]
      have : upd f c x n = f n := by unfold upd; rw [if_neg (by omega)]
      rw [this, Int32.add_assoc, Int32.add_assoc, Int32.add_comm (if x = 1 then we c else 0)]
theorem sit_ve_out {nj : Nat} {tk ag : Nat → Int32} {st lw : Nat} {dn : Nat → Nat} {ta we : Nat → Int32} {si : Int32} {un : Nat} {o : Nat → Nat} {c : Nat} : ∀ p, (∀ q, q < p → o q ≠ c) → (sitS nj tk ag st lw dn ta we si un o p).1 c = -9
  | 0, _ => rfl
  | p + 1, h => by
    have ih := sit_ve_out (nj := nj) (tk := tk) (ag := ag) (st := st) (lw := lw) (dn := dn) (ta := ta) (we := we) (si := si) (un := un) p (fun q hq => h q (by omega))
    have hne := h p (by omega)
    have hup : ∀ (f : Nat → Int32) (x : Int32), f c = -9 → upd f (o p) x c = -9 := by
      intro f x hf
      unfold upd
      rw [if_neg (fun e => hne e.symm)]
      exact hf
    rw [sitS, sitStep]
    (repeat' split) <;> exact hup _ _ ih
theorem sit_se {nj : Nat} {tk ag : Nat → Int32} {st lw : Nat} {dn : Nat → Nat} {ta we : Nat → Int32} {si : Int32} {un : Nat} {o : Nat → Nat} {nc L : Nat} (ho : ∀ p, p < L → o p < nc) (hi : ∀ p q, p < L → q < L → o p = o q → p = q) : ∀ p, p ≤ L → (sitS nj tk ag st lw dn ta we si un o p).2.2.2.2.1 = seS (sitS nj tk ag st lw dn ta we si un o p).1 we nc
  | 0, _ => by
    rw [sitS]
    show (0 : Int32) = seS (fun _ => -9) we nc
    have : ∀ n, seS (fun _ => -9) we n = 0 := by
      intro n
      induction n with
      | zero => rfl
      | succ n ih => rw [seS, ih]; simp
    exact (this nc).symm
  | p + 1, hp => by
    have ih := sit_se (nj := nj) (tk := tk) (ag := ag) (st := st) (lw := lw) (dn := dn) (ta := ta) (we := we) (si := si) (un := un) ho hi p (by omega)
    have hv := sit_ve_out (nj := nj) (tk := tk) (ag := ag) (st := st) (lw := lw) (dn := dn) (ta := ta) (we := we) (si := si) (un := un) (o := o) (c := o p) p (fun q hq e => by have := hi q p (by omega) (by omega) e; omega)
    have hon := ho p (by omega)
    rw [sitS]
    generalize sitS nj tk ag st lw dn ta we si un o p = q at ih hv ⊢
    rw [sitStep]
    by_cases h1 : q.2.2.2.2.2 = true ∨ ¬ q.2.2.2.1 + (if q.2.1 (dn (o p)) = -9 then ta (o p) else 1) ≤ si
    · rw [if_pos h1]
      dsimp only
      rw [seS_upd hv hon, ← ih, if_neg (by decide), Int32.add_zero]
    · rw [if_neg h1]
      by_cases h2 : q.2.1 (dn (o p)) = -9
      · rw [if_pos h2]
        dsimp only
        rw [seS_upd hv hon, ← ih]
        split
        · rfl
        · rw [Int32.add_zero]
      · rw [if_neg h2]
        dsimp only
        rw [seS_upd hv hon, ← ih]
        split
        · rfl
        · rw [Int32.add_zero]
set_option maxHeartbeats 4000000 in
set_option maxRecDepth 100000 in
theorem m_X5_within {l : Launch} {D : va_G} {cI cB cS : ClassId} (v : Int32) (le : Int32) (mo : Int32) : Ri l yX5_within cX5_within 3 (some .boolean) 0 0 D cI cB cS [.int v, .int le, .int mo] [] (fun r => r = bI (wib v le mo = true)) := by
  refine Ri.of (by decide) (Nat.le_of_ble_eq_true rfl) ?_
  intro zp ze zs zm zb zt zc C
  refine v_lv0 [(0, .int v), (1, .int le), (2, .int mo)] rfl ?_
  refine v_iload_n C dX5_within_0 0 rfl ?_
  refine v_iload_n C dX5_within_1 1 rfl ?_
  refine v_icmp_lt C 14 dX5_within_2 (by decide) (fun c1 => ?_) (fun c1 => ?_)
  · refine v_iconst C 0 dX5_within_14 (by decide) ?_
    exact v_retRi C dX5_within_15 rfl (by first | (simp only [bI, wib, *, ↓reduceIte]; done) | (simp [bI, wib, *]; done) | (simp_all [bI, wib]; done))
  · refine v_iload_n C dX5_within_5 0 rfl ?_
    refine v_iload_n C dX5_within_6 2 rfl ?_
    refine v_icmp_gt C 14 dX5_within_7 (by decide) (fun c2 => ?_) (fun c2 => ?_)
    · refine v_iconst C 0 dX5_within_14 (by decide) ?_
      exact v_retRi C dX5_within_15 rfl (by first | (simp only [bI, wib, *, ↓reduceIte]; done) | (simp [bI, wib, *]; done) | (simp_all [bI, wib]; done))
    · refine v_iconst C 1 dX5_within_10 (by decide) ?_
      refine v_goto C 15 dX5_within_11 (by decide) ?_
      exact v_retRi C dX5_within_15 rfl (by first | (simp only [bI, wib, *, ↓reduceIte]; done) | (simp [bI, wib, *]; done) | (simp_all [bI, wib]; done))
set_option maxHeartbeats 4000000 in
set_option maxRecDepth 100000 in
theorem m_X5_isSheet {l : Launch} {D : va_G} {cI cB cS : ClassId} (k : Int32) : Ri l yX5_isSheet cX5_isSheet 1 (some .boolean) 1 22 D cI cB cS [.int k] [] (fun r => r = bI (vSb k = true)) := by
  refine Ri.of (by decide) (Nat.le_of_ble_eq_true rfl) ?_
  intro zp ze zs zm zb zt zc C
  refine v_lv0 [(0, .int k)] rfl ?_
  refine v_iload_n C dX5_isSheet_0 0 rfl ?_
  refine v_iconst C 0 dX5_isSheet_1 (by decide) ?_
  refine v_iconst C 3 dX5_isSheet_2 (by decide) ?_
  refine v_callSi C l_X5_74 (m_X5_within k 0 3) (by decide) dX5_isSheet_3 [] rfl rfl (rest := []) rfl (Nat.le_of_ble_eq_true rfl) (by decide) (fun r1 h2 => ?_)
  subst h2
  by_cases c3 : wib k (0 : Int32) (3 : Int32) = true
  · refine v_eqi 1 (bI_t c3) ?_
    exact v_retRi C dX5_isSheet_6 rfl (by rw [← wib_S]; simp [bI, *])
  · refine v_eqi 0 (bI_f c3) ?_
    exact v_retRi C dX5_isSheet_6 rfl (by rw [← wib_S]; simp [bI, *])
set_option maxHeartbeats 4000000 in
set_option maxRecDepth 100000 in
theorem m_X5_isSort {l : Launch} {D : va_G} {cI cB cS : ClassId} (k : Int32) : Ri l yX5_isSort cX5_isSort 1 (some .boolean) 1 22 D cI cB cS [.int k] [] (fun r => r = bI (vLb k = true)) := by
  refine Ri.of (by decide) (Nat.le_of_ble_eq_true rfl) ?_
  intro zp ze zs zm zb zt zc C
  refine v_lv0 [(0, .int k)] rfl ?_
  refine v_iload_n C dX5_isSort_0 0 rfl ?_
  refine v_iconst C 0 dX5_isSort_1 (by decide) ?_
  refine v_iconst C 2 dX5_isSort_2 (by decide) ?_
  refine v_callSi C l_X5_74 (m_X5_within k 0 2) (by decide) dX5_isSort_3 [] rfl rfl (rest := []) rfl (Nat.le_of_ble_eq_true rfl) (by decide) (fun r1 h2 => ?_)
  subst h2
  by_cases c3 : wib k (0 : Int32) (2 : Int32) = true
  · refine v_eqi 1 (bI_t c3) ?_
    exact v_retRi C dX5_isSort_6 rfl (by rw [← wib_L]; simp [bI, *])
  · refine v_eqi 0 (bI_f c3) ?_
    exact v_retRi C dX5_isSort_6 rfl (by rw [← wib_L]; simp [bI, *])
set_option maxHeartbeats 4000000 in
set_option maxRecDepth 100000 in
theorem m_X5_fails {l : Launch} {D : va_G} {cI cB cS : ClassId} (b : Nat → Nat) (n_fa : Int32) (n_tr : Int32) (n_mi : Int32) (n_ju : Int32) (n_co : Int32) (n_cr : Int32) (n_at : Int32) (n_rm : Int32) (n_rj : Int32) (n_rc : Int32) (n_nw : Int32) (n_ov : Int32) (n_rl : Int32) (n_rd : Int32) (x : Int32) : Mi l yX5_fails cX5_fails 2 (some .int) 0 0 D cI cB cS [.ref (b 0), .int x] [oN b n_fa n_tr n_mi n_ju n_co n_cr n_at n_rm n_rj n_rc n_nw n_ov n_rl n_rd] (fun r w => r = (-10) - x ∧ w = [oN b x n_tr n_mi n_ju n_co n_cr n_at n_rm n_rj n_rc n_nw n_ov n_rl n_rd]) := by
  refine Mi.of (by decide) (Nat.le_of_ble_eq_true rfl) ?_
  intro zp ze zs zm zb zt zc zz zA hA C hnm
  refine v_lv0 [(0, .ref (b 0)), (1, .int x)] rfl ?_
  refine v_aload_n C dX5_fails_0 0 rfl ?_
  refine v_iload_n C dX5_fails_1 1 rfl ?_
  refine v_put C p_X5_68 [oN b x n_tr n_mi n_ju n_co n_cr n_at n_rm n_rj n_rc n_nw n_ov n_rl n_rd] dX5_fails_2 0 rfl rfl rfl (Nat.le_of_ble_eq_true rfl) rfl ?_
  refine v_bipush C (-10) dX5_fails_5 (by decide) ?_
  refine v_iload_n C dX5_fails_7 1 rfl ?_
  refine v_isub C dX5_fails_8 ?_
  exact v_reti C hA dX5_fails_9 rfl (⟨rfl, rfl⟩)
set_option maxHeartbeats 4000000 in
set_option maxRecDepth 100000 in
theorem m_X5_lost {l : Launch} {D : va_G} {cI cB cS : ClassId} (b : Nat → Nat) (n_fa : Int32) (n_tr : Int32) (n_mi : Int32) (n_ju : Int32) (n_co : Int32) (n_cr : Int32) (n_at : Int32) (n_rm : Int32) (n_rj : Int32) (n_rc : Int32) (n_nw : Int32) (n_ov : Int32) (n_rl : Int32) (n_rd : Int32) (x : Int32) : Ml l yX5_lost cX5_lost 2 0 0 D cI cB cS [.ref (b 0), .int x] [oN b n_fa n_tr n_mi n_ju n_co n_cr n_at n_rm n_rj n_rc n_nw n_ov n_rl n_rd] (fun r w => r = (-9223372036854775808) ∧ w = [oN b x n_tr n_mi n_ju n_co n_cr n_at n_rm n_rj n_rc n_nw n_ov n_rl n_rd]) := by
  refine Ml.of (by decide) (Nat.le_of_ble_eq_true rfl) ?_
  intro zp ze zs zm zb zt zc zz zA hA C hnm
  refine v_lv0 [(0, .ref (b 0)), (1, .int x)] rfl ?_
  refine v_aload_n C dX5_lost_0 0 rfl ?_
  refine v_iload_n C dX5_lost_1 1 rfl ?_
  refine v_put C p_X5_68 [oN b x n_tr n_mi n_ju n_co n_cr n_at n_rm n_rj n_rc n_nw n_ov n_rl n_rd] dX5_lost_2 0 rfl rfl rfl (Nat.le_of_ble_eq_true rfl) rfl ?_
  refine v_ldc2 C k_X5_72 dX5_lost_5 ?_
  exact v_retl C hA dX5_lost_8 (⟨rfl, rfl⟩)
set_option maxHeartbeats 4000000 in
set_option maxRecDepth 100000 in
theorem m_X5_against {l : Launch} {D : va_G} {cI cB cS : ClassId} (b : Nat → Nat) (k : Nat) (n_fa : Int32) (n_tr : Int32) (n_mi : Int32) (n_ju : Int32) (n_co : Int32) (n_cr : Int32) (n_at : Int32) (n_rm : Int32) (n_rj : Int32) (n_rc : Int32) (n_nw : Int32) (n_ov : Int32) (n_rl : Int32) (n_rd : Int32) (n_so : Nat → Int32) (n_sl : Nat → Int32) (x : Int32) (i : Int32) (n : Int32) (hk : k < 4) : Ri l yX5_against cX5_against 5 (some .int) 0 0 D cI cB cS [.ref (b 0), .int (nI k), .int x, .int i, .int n] [oN b n_fa n_tr n_mi n_ju n_co n_cr n_at n_rm n_rj n_rc n_nw n_ov n_rl n_rd, ia (b 2) cI 4 n_so, ia (b 3) cI 4 n_sl] (fun r => r = agF (n_so k) (n_sl k) x i n) := by
  refine Ri.of (by decide) (Nat.le_of_ble_eq_true rfl) ?_
  intro zp ze zs zm zb zt zc C
  refine v_lv0 [(0, .ref (b 0)), (1, .int (nI k)), (2, .int x), (3, .int i), (4, .int n)] rfl ?_
  refine v_aload_n C dX5_against_0 0 rfl ?_
  refine v_get C f_X5_9 dX5_against_1 0 rfl rfl ?_
  refine v_iload_n C dX5_against_4 1 rfl ?_
  refine v_ialdN C dX5_against_5 1 rfl k rfl (by omega) (by decide) ?_
  refine v_bipush C (-9) dX5_against_6 (by decide) ?_
  refine v_icmp_eq C 23 dX5_against_8 (by decide) (fun c1 => ?_) (fun c1 => ?_)
  · refine v_aload_n C dX5_against_23 0 rfl ?_
    refine v_get C f_X5_9 dX5_against_24 0 rfl rfl ?_
    refine v_iload_n C dX5_against_27 1 rfl ?_
    refine v_ialdN C dX5_against_28 1 rfl k rfl (by omega) (by decide) ?_
    refine v_bipush C (-9) dX5_against_29 (by decide) ?_
    refine v_icmp_ne C 36 dX5_against_31 (by decide) (fun c2 => ?_) (fun c2 => ?_)
    · exact absurd c1 c2
    · refine v_iconst C 1 dX5_against_34 (by decide) ?_
      exact v_retRi C dX5_against_35 rfl (by rw [agF, if_neg (fun q => q.1 c1), if_pos c1])
  · refine v_aload_n C dX5_against_11 0 rfl ?_
    refine v_get C f_X5_9 dX5_against_12 0 rfl rfl ?_
    refine v_iload_n C dX5_against_15 1 rfl ?_
    refine v_ialdN C dX5_against_16 1 rfl k rfl (by omega) (by decide) ?_
    refine v_iload_n C dX5_against_17 2 rfl ?_
    refine v_icmp_eq C 23 dX5_against_18 (by decide) (fun c3 => ?_) (fun c3 => ?_)
    · refine v_aload_n C dX5_against_23 0 rfl ?_
      refine v_get C f_X5_9 dX5_against_24 0 rfl rfl ?_
      refine v_iload_n C dX5_against_27 1 rfl ?_
      refine v_ialdN C dX5_against_28 1 rfl k rfl (by omega) (by decide) ?_
      refine v_bipush C (-9) dX5_against_29 (by decide) ?_
      refine v_icmp_ne C 36 dX5_against_31 (by decide) (fun c4 => ?_) (fun c4 => ?_)
      · refine v_iload C dX5_against_36 4 rfl ?_
        refine v_if_ge C 43 dX5_against_38 (by decide) (fun c5 => ?_) (fun c5 => ?_)
        · refine v_iload_n C dX5_against_43 3 rfl ?_
          refine v_if_lt C 70 dX5_against_44 (by decide) (fun c6 => ?_) (fun c6 => ?_)
          · refine v_iconst C 3 dX5_against_70 (by decide) ?_
            refine v_goto C 75 dX5_against_71 (by decide) ?_
            exact v_retRi C dX5_against_75 rfl (by rw [agF, if_neg (fun q => q.2 c3), if_neg c1, if_pos c5, if_pos (Or.inl c6)])
          · refine v_iload_n C dX5_against_47 3 rfl ?_
            refine v_aload_n C dX5_against_48 0 rfl ?_
            refine v_get C f_X5_13 dX5_against_49 0 rfl rfl ?_
            refine v_iload_n C dX5_against_52 1 rfl ?_
            refine v_ialdN C dX5_against_53 2 rfl k rfl (by omega) (by decide) ?_
            refine v_icmp_gt C 70 dX5_against_54 (by decide) (fun c7 => ?_) (fun c7 => ?_)
            · refine v_iconst C 3 dX5_against_70 (by decide) ?_
              refine v_goto C 75 dX5_against_71 (by decide) ?_
              exact v_retRi C dX5_against_75 rfl (by rw [agF, if_neg (fun q => q.2 c3), if_neg c1, if_pos c5, if_pos (Or.inr (Or.inl c7))])
            · refine v_iload C dX5_against_57 4 rfl ?_
              refine v_aload_n C dX5_against_59 0 rfl ?_
              refine v_get C f_X5_13 dX5_against_60 0 rfl rfl ?_
              refine v_iload_n C dX5_against_63 1 rfl ?_
              refine v_ialdN C dX5_against_64 2 rfl k rfl (by omega) (by decide) ?_
              refine v_iload_n C dX5_against_65 3 rfl ?_
              refine v_isub C dX5_against_66 ?_
              refine v_icmp_le C 74 dX5_against_67 (by decide) (fun c8 => ?_) (fun c8 => ?_)
              · refine v_iconst C 0 dX5_against_74 (by decide) ?_
                exact v_retRi C dX5_against_75 rfl (by rw [agF, if_neg (fun q => q.2 c3), if_neg c1, if_pos c5, if_neg (fun q => q.elim c6 (fun q => q.elim c7 (fun q => q c8)))])
              · refine v_iconst C 3 dX5_against_70 (by decide) ?_
                refine v_goto C 75 dX5_against_71 (by decide) ?_
                exact v_retRi C dX5_against_75 rfl (by rw [agF, if_neg (fun q => q.2 c3), if_neg c1, if_pos c5, if_pos (Or.inr (Or.inr c8))])
        · refine v_iconst C 4 dX5_against_41 (by decide) ?_
          exact v_retRi C dX5_against_42 rfl (by rw [agF, if_neg (fun q => q.2 c3), if_neg c1, if_neg c5])
      · exact absurd c4 c1
    · refine v_iconst C 2 dX5_against_21 (by decide) ?_
      exact v_retRi C dX5_against_22 rfl (by rw [agF, if_pos ⟨c1, c3⟩])
set_option maxHeartbeats 4000000 in
set_option maxRecDepth 100000 in
theorem m_X5_isJuror {l : Launch} {D : va_G} {cI cB cS : ClassId} (b : Nat → Nat) (n_fa : Int32) (n_tr : Int32) (n_mi : Int32) (n_ju : Int32) (n_co : Int32) (n_cr : Int32) (n_at : Int32) (n_rm : Int32) (n_rj : Int32) (n_rc : Int32) (n_nw : Int32) (n_ov : Int32) (n_rl : Int32) (n_rd : Int32) (j : Int32) : Ri l yX5_isJuror cX5_isJuror 2 (some .boolean) 0 0 D cI cB cS [.ref (b 0), .int j] [oN b n_fa n_tr n_mi n_ju n_co n_cr n_at n_rm n_rj n_rc n_nw n_ov n_rl n_rd] (fun r => r = bI (¬ j < 0 ∧ ¬ n_ju ≤ j)) := by
  refine Ri.of (by decide) (Nat.le_of_ble_eq_true rfl) ?_
  intro zp ze zs zm zb zt zc C
  refine v_lv0 [(0, .ref (b 0)), (1, .int j)] rfl ?_
  refine v_iload_n C dX5_isJuror_0 1 rfl ?_
  refine v_if_lt C 16 dX5_isJuror_1 (by decide) (fun c1 => ?_) (fun c1 => ?_)
  · refine v_iconst C 0 dX5_isJuror_16 (by decide) ?_
    exact v_retRi C dX5_isJuror_17 rfl (by first | (simp only [bI, *, ↓reduceIte]; done) | (simp [bI, *]; done) | (simp_all [bI]; done))
  · refine v_iload_n C dX5_isJuror_4 1 rfl ?_
    refine v_aload_n C dX5_isJuror_5 0 rfl ?_
    refine v_get C f_X5_78 dX5_isJuror_6 0 rfl rfl ?_
    refine v_icmp_ge C 16 dX5_isJuror_9 (by decide) (fun c2 => ?_) (fun c2 => ?_)
    · refine v_iconst C 0 dX5_isJuror_16 (by decide) ?_
      exact v_retRi C dX5_isJuror_17 rfl (by first | (simp only [bI, *, ↓reduceIte]; done) | (simp [bI, *]; done) | (simp_all [bI]; done))
    · refine v_iconst C 1 dX5_isJuror_12 (by decide) ?_
      refine v_goto C 17 dX5_isJuror_13 (by decide) ?_
      exact v_retRi C dX5_isJuror_17 rfl (by first | (simp only [bI, *, ↓reduceIte]; done) | (simp [bI, *]; done) | (simp_all [bI]; done))
set_option maxHeartbeats 4000000 in
set_option maxRecDepth 100000 in
theorem m_X5_isCase {l : Launch} {D : va_G} {cI cB cS : ClassId} (b : Nat → Nat) (n_fa : Int32) (n_tr : Int32) (n_mi : Int32) (n_ju : Int32) (n_co : Int32) (n_cr : Int32) (n_at : Int32) (n_rm : Int32) (n_rj : Int32) (n_rc : Int32) (n_nw : Int32) (n_ov : Int32) (n_rl : Int32) (n_rd : Int32) (j : Int32) : Ri l yX5_isCase cX5_isCase 2 (some .boolean) 0 0 D cI cB cS [.ref (b 0), .int j] [oN b n_fa n_tr n_mi n_ju n_co n_cr n_at n_rm n_rj n_rc n_nw n_ov n_rl n_rd] (fun r => r = bI (¬ j < 0 ∧ ¬ n_co ≤ j)) := by
  refine Ri.of (by decide) (Nat.le_of_ble_eq_true rfl) ?_
  intro zp ze zs zm zb zt zc C
  refine v_lv0 [(0, .ref (b 0)), (1, .int j)] rfl ?_
  refine v_iload_n C dX5_isCase_0 1 rfl ?_
  refine v_if_lt C 16 dX5_isCase_1 (by decide) (fun c1 => ?_) (fun c1 => ?_)
  · refine v_iconst C 0 dX5_isCase_16 (by decide) ?_
    exact v_retRi C dX5_isCase_17 rfl (by first | (simp only [bI, *, ↓reduceIte]; done) | (simp [bI, *]; done) | (simp_all [bI]; done))
  · refine v_iload_n C dX5_isCase_4 1 rfl ?_
    refine v_aload_n C dX5_isCase_5 0 rfl ?_
    refine v_get C f_X5_81 dX5_isCase_6 0 rfl rfl ?_
    refine v_icmp_ge C 16 dX5_isCase_9 (by decide) (fun c2 => ?_) (fun c2 => ?_)
    · refine v_iconst C 0 dX5_isCase_16 (by decide) ?_
      exact v_retRi C dX5_isCase_17 rfl (by first | (simp only [bI, *, ↓reduceIte]; done) | (simp [bI, *]; done) | (simp_all [bI]; done))
    · refine v_iconst C 1 dX5_isCase_12 (by decide) ?_
      refine v_goto C 17 dX5_isCase_13 (by decide) ?_
      exact v_retRi C dX5_isCase_17 rfl (by first | (simp only [bI, *, ↓reduceIte]; done) | (simp [bI, *]; done) | (simp_all [bI]; done))
set_option maxHeartbeats 4000000 in
set_option maxRecDepth 100000 in
theorem m_X5_isCrime {l : Launch} {D : va_G} {cI cB cS : ClassId} (b : Nat → Nat) (wl c d : Nat) (n_fa : Int32) (n_tr : Int32) (n_mi : Int32) (n_ju : Int32) (n_co : Int32) (n_at : Int32) (n_rm : Int32) (n_rj : Int32) (n_rc : Int32) (n_nw : Int32) (n_ov : Int32) (n_rl : Int32) (n_rd : Int32) (n_de : Nat → Int32) (hc : c < 5) (hd : n_de c = nI d) (hd6 : d < 6) (hwl : wl < 64) : Ri l yX5_isCrime cX5_isCrime 2 (some .boolean) 0 0 D cI cB cS [.ref (b 0), .int (nI c)] [oN b n_fa n_tr n_mi n_ju n_co (nI wl) n_at n_rm n_rj n_rc n_nw n_ov n_rl n_rd, ia (b 13) cI 5 n_de] (fun r => r = bI (wl.testBit d = true)) := by
  refine Ri.of (by decide) (Nat.le_of_ble_eq_true rfl) ?_
  intro zp ze zs zm zb zt zc C
  refine v_lv0 [(0, .ref (b 0)), (1, .int (nI c))] rfl ?_
  refine v_aload_n C dX5_isCrime_0 0 rfl ?_
  refine v_get C f_X5_117 dX5_isCrime_1 0 rfl rfl ?_
  refine v_aload_n C dX5_isCrime_4 0 rfl ?_
  refine v_get C f_X5_32 dX5_isCrime_5 0 rfl rfl ?_
  refine v_iload_n C dX5_isCrime_8 1 rfl ?_
  refine v_ialdN C dX5_isCrime_9 1 rfl c rfl (by omega) (by decide) ?_
  refine v_eqi (nI d) (hd) ?_
  refine v_ishr C dX5_isCrime_10 ?_
  refine v_iconst C 1 dX5_isCrime_11 (by decide) ?_
  refine v_iand C dX5_isCrime_12 ?_
  refine v_eqi ((if wl.testBit d then 1 else 0)) (raw_bit wl hwl d hd6) ?_
  refine v_iconst C 1 dX5_isCrime_13 (by decide) ?_
  refine v_icmp_ne C 21 dX5_isCrime_14 (by decide) (fun c1 => ?_) (fun c1 => ?_)
  · have hb : wl.testBit d = false := by revert c1; cases wl.testBit d <;> simp
    refine v_iconst C 0 dX5_isCrime_21 (by decide) ?_
    exact v_retRi C dX5_isCrime_22 rfl (by simp [bI, hb])
  · have hb : wl.testBit d = true := by revert c1; cases wl.testBit d <;> simp
    refine v_iconst C 1 dX5_isCrime_17 (by decide) ?_
    refine v_goto C 22 dX5_isCrime_18 (by decide) ?_
    exact v_retRi C dX5_isCrime_22 rfl (by simp [bI, hb])
set_option maxHeartbeats 4000000 in
set_option maxRecDepth 100000 in
theorem m_X5_isAgainst1 {l : Launch} {D : va_G} {cI cB cS : ClassId} (b : Nat → Nat) (wl c d j : Nat) (n_fa : Int32) (n_tr : Int32) (n_mi : Int32) (n_ju : Int32) (n_co : Int32) (n_at : Int32) (n_rm : Int32) (n_rj : Int32) (n_rc : Int32) (n_nw : Int32) (n_ov : Int32) (n_rl : Int32) (n_rd : Int32) (n_kd : Nat → Int32) (n_ag : Nat → Int32) (n_hS : Nat → Int32) (n_iE : Nat → Int32) (n_de : Nat → Int32) (mi : Int32) (hj : j < 5) (hc : c < 5) (hd : n_de c = nI d) (hd6 : d < 6) (hwl : wl < 64) : Mi l yX5_isAgainst cX5_isAgainst 5 (some .boolean) 1 21 D cI cB cS [.ref (b 0), .int (nI j), .int (nI c), .int mi, .int 1] [oN b n_fa n_tr n_mi n_ju n_co (nI wl) n_at n_rm n_rj n_rc n_nw n_ov n_rl n_rd, ia (b 9) cI 5 n_kd, ia (b 10) cI 5 n_ag, ia (b 11) cB 5 n_hS, ia (b 26) cB 5 n_iE, ia (b 13) cI 5 n_de] (fun r w => r = bI (¬ (n_kd j = 2 ∧ ¬ n_hS j = 0 ∧ n_iE j = 0) ∧ (wl.testBit d = true ∨ (n_kd j = 1 ∧ ¬ mi < 5 * n_ag j))) ∧ w = [oN b n_fa n_tr n_mi n_ju n_co (nI wl) n_at n_rm n_rj n_rc n_nw n_ov n_rl n_rd, ia (b 9) cI 5 n_kd, ia (b 10) cI 5 n_ag, ia (b 11) cB 5 n_hS, ia (b 26) cB 5 (if n_kd j = 2 ∧ ¬ n_hS j = 0 ∧ n_iE j = 0 then upd n_iE j 1 else n_iE), ia (b 13) cI 5 n_de]) := by
  refine Mi.of (by decide) (Nat.le_of_ble_eq_true rfl) ?_
  intro zp ze zs zm zb zt zc zz zA hA C hnm
  refine v_lv0 [(0, .ref (b 0)), (1, .int (nI j)), (2, .int (nI c)), (3, .int mi), (4, .int 1)] rfl ?_
  refine v_aload_n C dX5_isAgainst_0 0 rfl ?_
  refine v_get C f_X5_19 dX5_isAgainst_1 0 rfl rfl ?_
  refine v_iload_n C dX5_isAgainst_4 1 rfl ?_
  refine v_ialdN C dX5_isAgainst_5 1 rfl j rfl (by omega) (by decide) ?_
  refine v_iconst C 2 dX5_isAgainst_6 (by decide) ?_
  refine v_icmp_ne C 38 dX5_isAgainst_7 (by decide) (fun c1 => ?_) (fun c1 => ?_)
  · refine v_aload_n C dX5_isAgainst_38 0 rfl ?_
    refine v_iload_n C dX5_isAgainst_39 2 rfl ?_
    refine v_callRi C l_X5_153 (m_X5_isCrime b wl c d n_fa n_tr n_mi n_ju n_co n_at n_rm n_rj n_rc n_nw n_ov n_rl n_rd n_de hc hd hd6 hwl) (by decide) dX5_isAgainst_40 [0, 5] rfl 0 rfl rfl rfl (rest := []) rfl (Nat.le_of_ble_eq_true rfl) (by decide) (fun r2 h3 => ?_)
    subst h3
    by_cases c4 : wl.testBit d = true
    · refine v_eqi 1 (bI_t c4) ?_
      refine v_if_ne C 68 dX5_isAgainst_43 (by decide) (fun _ => ?_) (fun h => absurd h (by decide))
      refine v_iconst C 1 dX5_isAgainst_68 (by decide) ?_
      refine v_goto C 73 dX5_isAgainst_69 (by decide) ?_
      exact v_reti C hA dX5_isAgainst_73 rfl (by refine ⟨?_, ?_⟩ <;> first | (simp [bI, *]; done) | (simp_all [bI]; done))
    · refine v_eqi 0 (bI_f c4) ?_
      refine v_if_ne C 68 dX5_isAgainst_43 (by decide) (fun h => absurd h (by decide)) (fun _ => ?_)
      refine v_aload_n C dX5_isAgainst_46 0 rfl ?_
      refine v_get C f_X5_19 dX5_isAgainst_47 0 rfl rfl ?_
      refine v_iload_n C dX5_isAgainst_50 1 rfl ?_
      refine v_ialdN C dX5_isAgainst_51 1 rfl j rfl (by omega) (by decide) ?_
      refine v_iconst C 1 dX5_isAgainst_52 (by decide) ?_
      refine v_icmp_ne C 72 dX5_isAgainst_53 (by decide) (fun c5 => ?_) (fun c5 => ?_)
      · refine v_iconst C 0 dX5_isAgainst_72 (by decide) ?_
        exact v_reti C hA dX5_isAgainst_73 rfl (by refine ⟨?_, ?_⟩ <;> first | (simp [bI, *]; done) | (simp_all [bI]; done))
      · refine v_iload_n C dX5_isAgainst_56 3 rfl ?_
        refine v_iconst C 5 dX5_isAgainst_57 (by decide) ?_
        refine v_aload_n C dX5_isAgainst_58 0 rfl ?_
        refine v_get C f_X5_22 dX5_isAgainst_59 0 rfl rfl ?_
        refine v_iload_n C dX5_isAgainst_62 1 rfl ?_
        refine v_ialdN C dX5_isAgainst_63 2 rfl j rfl (by omega) (by decide) ?_
        refine v_imul C dX5_isAgainst_64 ?_
        refine v_icmp_lt C 72 dX5_isAgainst_65 (by decide) (fun c6 => ?_) (fun c6 => ?_)
        · refine v_iconst C 0 dX5_isAgainst_72 (by decide) ?_
          exact v_reti C hA dX5_isAgainst_73 rfl (by refine ⟨?_, ?_⟩ <;> first | (simp [bI, *]; done) | (simp_all [bI]; done))
        · refine v_iconst C 1 dX5_isAgainst_68 (by decide) ?_
          refine v_goto C 73 dX5_isAgainst_69 (by decide) ?_
          exact v_reti C hA dX5_isAgainst_73 rfl (by refine ⟨?_, ?_⟩ <;> first | (simp [bI, *]; done) | (simp_all [bI]; done))
  · refine v_aload_n C dX5_isAgainst_10 0 rfl ?_
    refine v_get C f_X5_25 dX5_isAgainst_11 0 rfl rfl ?_
    refine v_iload_n C dX5_isAgainst_14 1 rfl ?_
    refine v_zaldN C dX5_isAgainst_15 3 rfl j rfl (by omega) (by decide) ?_
    refine v_if_eq C 38 dX5_isAgainst_16 (by decide) (fun c7 => ?_) (fun c7 => ?_)
    · refine v_aload_n C dX5_isAgainst_38 0 rfl ?_
      refine v_iload_n C dX5_isAgainst_39 2 rfl ?_
      refine v_callRi C l_X5_153 (m_X5_isCrime b wl c d n_fa n_tr n_mi n_ju n_co n_at n_rm n_rj n_rc n_nw n_ov n_rl n_rd n_de hc hd hd6 hwl) (by decide) dX5_isAgainst_40 [0, 5] rfl 0 rfl rfl rfl (rest := []) rfl (Nat.le_of_ble_eq_true rfl) (by decide) (fun r8 h9 => ?_)
      subst h9
      by_cases c10 : wl.testBit d = true
      · refine v_eqi 1 (bI_t c10) ?_
        refine v_if_ne C 68 dX5_isAgainst_43 (by decide) (fun _ => ?_) (fun h => absurd h (by decide))
        refine v_iconst C 1 dX5_isAgainst_68 (by decide) ?_
        refine v_goto C 73 dX5_isAgainst_69 (by decide) ?_
        exact v_reti C hA dX5_isAgainst_73 rfl (by refine ⟨?_, ?_⟩ <;> first | (simp [bI, *]; done) | (simp_all [bI]; done))
      · refine v_eqi 0 (bI_f c10) ?_
        refine v_if_ne C 68 dX5_isAgainst_43 (by decide) (fun h => absurd h (by decide)) (fun _ => ?_)
        refine v_aload_n C dX5_isAgainst_46 0 rfl ?_
        refine v_get C f_X5_19 dX5_isAgainst_47 0 rfl rfl ?_
        refine v_iload_n C dX5_isAgainst_50 1 rfl ?_
        refine v_ialdN C dX5_isAgainst_51 1 rfl j rfl (by omega) (by decide) ?_
        refine v_iconst C 1 dX5_isAgainst_52 (by decide) ?_
        refine v_icmp_ne C 72 dX5_isAgainst_53 (by decide) (fun c11 => ?_) (fun c11 => ?_)
        · refine v_iconst C 0 dX5_isAgainst_72 (by decide) ?_
          exact v_reti C hA dX5_isAgainst_73 rfl (by refine ⟨?_, ?_⟩ <;> first | (simp [bI, *]; done) | (simp_all [bI]; done))
        · refine v_iload_n C dX5_isAgainst_56 3 rfl ?_
          refine v_iconst C 5 dX5_isAgainst_57 (by decide) ?_
          refine v_aload_n C dX5_isAgainst_58 0 rfl ?_
          refine v_get C f_X5_22 dX5_isAgainst_59 0 rfl rfl ?_
          refine v_iload_n C dX5_isAgainst_62 1 rfl ?_
          refine v_ialdN C dX5_isAgainst_63 2 rfl j rfl (by omega) (by decide) ?_
          refine v_imul C dX5_isAgainst_64 ?_
          refine v_icmp_lt C 72 dX5_isAgainst_65 (by decide) (fun c12 => ?_) (fun c12 => ?_)
          · refine v_iconst C 0 dX5_isAgainst_72 (by decide) ?_
            exact v_reti C hA dX5_isAgainst_73 rfl (by refine ⟨?_, ?_⟩ <;> first | (simp [bI, *]; done) | (simp_all [bI]; done))
          · refine v_iconst C 1 dX5_isAgainst_68 (by decide) ?_
            refine v_goto C 73 dX5_isAgainst_69 (by decide) ?_
            exact v_reti C hA dX5_isAgainst_73 rfl (by refine ⟨?_, ?_⟩ <;> first | (simp [bI, *]; done) | (simp_all [bI]; done))
    · refine v_aload_n C dX5_isAgainst_19 0 rfl ?_
      refine v_get C f_X5_53 dX5_isAgainst_20 0 rfl rfl ?_
      refine v_iload_n C dX5_isAgainst_23 1 rfl ?_
      refine v_zaldN C dX5_isAgainst_24 4 rfl j rfl (by omega) (by decide) ?_
      refine v_if_ne C 38 dX5_isAgainst_25 (by decide) (fun c13 => ?_) (fun c13 => ?_)
      · refine v_aload_n C dX5_isAgainst_38 0 rfl ?_
        refine v_iload_n C dX5_isAgainst_39 2 rfl ?_
        refine v_callRi C l_X5_153 (m_X5_isCrime b wl c d n_fa n_tr n_mi n_ju n_co n_at n_rm n_rj n_rc n_nw n_ov n_rl n_rd n_de hc hd hd6 hwl) (by decide) dX5_isAgainst_40 [0, 5] rfl 0 rfl rfl rfl (rest := []) rfl (Nat.le_of_ble_eq_true rfl) (by decide) (fun r14 h15 => ?_)
        subst h15
        by_cases c16 : wl.testBit d = true
        · refine v_eqi 1 (bI_t c16) ?_
          refine v_if_ne C 68 dX5_isAgainst_43 (by decide) (fun _ => ?_) (fun h => absurd h (by decide))
          refine v_iconst C 1 dX5_isAgainst_68 (by decide) ?_
          refine v_goto C 73 dX5_isAgainst_69 (by decide) ?_
          exact v_reti C hA dX5_isAgainst_73 rfl (by refine ⟨?_, ?_⟩ <;> first | (simp [bI, *]; done) | (simp_all [bI]; done))
        · refine v_eqi 0 (bI_f c16) ?_
          refine v_if_ne C 68 dX5_isAgainst_43 (by decide) (fun h => absurd h (by decide)) (fun _ => ?_)
          refine v_aload_n C dX5_isAgainst_46 0 rfl ?_
          refine v_get C f_X5_19 dX5_isAgainst_47 0 rfl rfl ?_
          refine v_iload_n C dX5_isAgainst_50 1 rfl ?_
          refine v_ialdN C dX5_isAgainst_51 1 rfl j rfl (by omega) (by decide) ?_
          refine v_iconst C 1 dX5_isAgainst_52 (by decide) ?_
          refine v_icmp_ne C 72 dX5_isAgainst_53 (by decide) (fun c17 => ?_) (fun c17 => ?_)
          · refine v_iconst C 0 dX5_isAgainst_72 (by decide) ?_
            exact v_reti C hA dX5_isAgainst_73 rfl (by refine ⟨?_, ?_⟩ <;> first | (simp [bI, *]; done) | (simp_all [bI]; done))
          · refine v_iload_n C dX5_isAgainst_56 3 rfl ?_
            refine v_iconst C 5 dX5_isAgainst_57 (by decide) ?_
            refine v_aload_n C dX5_isAgainst_58 0 rfl ?_
            refine v_get C f_X5_22 dX5_isAgainst_59 0 rfl rfl ?_
            refine v_iload_n C dX5_isAgainst_62 1 rfl ?_
            refine v_ialdN C dX5_isAgainst_63 2 rfl j rfl (by omega) (by decide) ?_
            refine v_imul C dX5_isAgainst_64 ?_
            refine v_icmp_lt C 72 dX5_isAgainst_65 (by decide) (fun c18 => ?_) (fun c18 => ?_)
            · refine v_iconst C 0 dX5_isAgainst_72 (by decide) ?_
              exact v_reti C hA dX5_isAgainst_73 rfl (by refine ⟨?_, ?_⟩ <;> first | (simp [bI, *]; done) | (simp_all [bI]; done))
            · refine v_iconst C 1 dX5_isAgainst_68 (by decide) ?_
              refine v_goto C 73 dX5_isAgainst_69 (by decide) ?_
              exact v_reti C hA dX5_isAgainst_73 rfl (by refine ⟨?_, ?_⟩ <;> first | (simp [bI, *]; done) | (simp_all [bI]; done))
      · refine v_aload_n C dX5_isAgainst_28 0 rfl ?_
        refine v_get C f_X5_53 dX5_isAgainst_29 0 rfl rfl ?_
        refine v_iload_n C dX5_isAgainst_32 1 rfl ?_
        refine v_iload C dX5_isAgainst_33 4 rfl ?_
        refine v_zastN C [oN b n_fa n_tr n_mi n_ju n_co (nI wl) n_at n_rm n_rj n_rc n_nw n_ov n_rl n_rd, ia (b 9) cI 5 n_kd, ia (b 10) cI 5 n_ag, ia (b 11) cB 5 n_hS, ia (b 26) cB 5 (upd n_iE j 1), ia (b 13) cI 5 n_de] dX5_isAgainst_35 4 rfl j rfl (by omega) (by decide) rfl rfl ?_
        refine v_iconst C 0 dX5_isAgainst_36 (by decide) ?_
        exact v_reti C hA dX5_isAgainst_37 rfl (by refine ⟨?_, ?_⟩ <;> first | (simp [bI, *]; done) | (simp_all [bI]; done))
set_option maxHeartbeats 4000000 in
set_option maxRecDepth 100000 in
theorem m_X5_isAgainst0 {l : Launch} {D : va_G} {cI cB cS : ClassId} (b : Nat → Nat) (wl c d j : Nat) (n_fa : Int32) (n_tr : Int32) (n_mi : Int32) (n_ju : Int32) (n_co : Int32) (n_at : Int32) (n_rm : Int32) (n_rj : Int32) (n_rc : Int32) (n_nw : Int32) (n_ov : Int32) (n_rl : Int32) (n_rd : Int32) (n_kd : Nat → Int32) (n_ag : Nat → Int32) (n_hS : Nat → Int32) (n_iE : Nat → Int32) (n_de : Nat → Int32) (mi : Int32) (hj : j < 5) (hc : c < 5) (hd : n_de c = nI d) (hd6 : d < 6) (hwl : wl < 64) : Mi l yX5_isAgainst cX5_isAgainst 5 (some .boolean) 1 21 D cI cB cS [.ref (b 0), .int (nI j), .int (nI c), .int mi, .int 0] [oN b n_fa n_tr n_mi n_ju n_co (nI wl) n_at n_rm n_rj n_rc n_nw n_ov n_rl n_rd, ia (b 9) cI 5 n_kd, ia (b 10) cI 5 n_ag, ia (b 11) cB 5 n_hS, ia (b 26) cB 5 n_iE, ia (b 13) cI 5 n_de] (fun r w => r = bI (¬ (n_kd j = 2 ∧ ¬ n_hS j = 0 ∧ n_iE j = 0) ∧ (wl.testBit d = true ∨ (n_kd j = 1 ∧ ¬ mi < 5 * n_ag j))) ∧ w = [oN b n_fa n_tr n_mi n_ju n_co (nI wl) n_at n_rm n_rj n_rc n_nw n_ov n_rl n_rd, ia (b 9) cI 5 n_kd, ia (b 10) cI 5 n_ag, ia (b 11) cB 5 n_hS, ia (b 26) cB 5 (if n_kd j = 2 ∧ ¬ n_hS j = 0 ∧ n_iE j = 0 then upd n_iE j 0 else n_iE), ia (b 13) cI 5 n_de]) := by
  refine Mi.of (by decide) (Nat.le_of_ble_eq_true rfl) ?_
  intro zp ze zs zm zb zt zc zz zA hA C hnm
  refine v_lv0 [(0, .ref (b 0)), (1, .int (nI j)), (2, .int (nI c)), (3, .int mi), (4, .int 0)] rfl ?_
  refine v_aload_n C dX5_isAgainst_0 0 rfl ?_
  refine v_get C f_X5_19 dX5_isAgainst_1 0 rfl rfl ?_
  refine v_iload_n C dX5_isAgainst_4 1 rfl ?_
  refine v_ialdN C dX5_isAgainst_5 1 rfl j rfl (by omega) (by decide) ?_
  refine v_iconst C 2 dX5_isAgainst_6 (by decide) ?_
  refine v_icmp_ne C 38 dX5_isAgainst_7 (by decide) (fun c1 => ?_) (fun c1 => ?_)
  · refine v_aload_n C dX5_isAgainst_38 0 rfl ?_
    refine v_iload_n C dX5_isAgainst_39 2 rfl ?_
    refine v_callRi C l_X5_153 (m_X5_isCrime b wl c d n_fa n_tr n_mi n_ju n_co n_at n_rm n_rj n_rc n_nw n_ov n_rl n_rd n_de hc hd hd6 hwl) (by decide) dX5_isAgainst_40 [0, 5] rfl 0 rfl rfl rfl (rest := []) rfl (Nat.le_of_ble_eq_true rfl) (by decide) (fun r2 h3 => ?_)
    subst h3
    by_cases c4 : wl.testBit d = true
    · refine v_eqi 1 (bI_t c4) ?_
      refine v_if_ne C 68 dX5_isAgainst_43 (by decide) (fun _ => ?_) (fun h => absurd h (by decide))
      refine v_iconst C 1 dX5_isAgainst_68 (by decide) ?_
      refine v_goto C 73 dX5_isAgainst_69 (by decide) ?_
      exact v_reti C hA dX5_isAgainst_73 rfl (by refine ⟨?_, ?_⟩ <;> first | (simp [bI, *]; done) | (simp_all [bI]; done))
    · refine v_eqi 0 (bI_f c4) ?_
      refine v_if_ne C 68 dX5_isAgainst_43 (by decide) (fun h => absurd h (by decide)) (fun _ => ?_)
      refine v_aload_n C dX5_isAgainst_46 0 rfl ?_
      refine v_get C f_X5_19 dX5_isAgainst_47 0 rfl rfl ?_
      refine v_iload_n C dX5_isAgainst_50 1 rfl ?_
      refine v_ialdN C dX5_isAgainst_51 1 rfl j rfl (by omega) (by decide) ?_
      refine v_iconst C 1 dX5_isAgainst_52 (by decide) ?_
      refine v_icmp_ne C 72 dX5_isAgainst_53 (by decide) (fun c5 => ?_) (fun c5 => ?_)
      · refine v_iconst C 0 dX5_isAgainst_72 (by decide) ?_
        exact v_reti C hA dX5_isAgainst_73 rfl (by refine ⟨?_, ?_⟩ <;> first | (simp [bI, *]; done) | (simp_all [bI]; done))
      · refine v_iload_n C dX5_isAgainst_56 3 rfl ?_
        refine v_iconst C 5 dX5_isAgainst_57 (by decide) ?_
        refine v_aload_n C dX5_isAgainst_58 0 rfl ?_
        refine v_get C f_X5_22 dX5_isAgainst_59 0 rfl rfl ?_
        refine v_iload_n C dX5_isAgainst_62 1 rfl ?_
        refine v_ialdN C dX5_isAgainst_63 2 rfl j rfl (by omega) (by decide) ?_
        refine v_imul C dX5_isAgainst_64 ?_
        refine v_icmp_lt C 72 dX5_isAgainst_65 (by decide) (fun c6 => ?_) (fun c6 => ?_)
        · refine v_iconst C 0 dX5_isAgainst_72 (by decide) ?_
          exact v_reti C hA dX5_isAgainst_73 rfl (by refine ⟨?_, ?_⟩ <;> first | (simp [bI, *]; done) | (simp_all [bI]; done))
        · refine v_iconst C 1 dX5_isAgainst_68 (by decide) ?_
          refine v_goto C 73 dX5_isAgainst_69 (by decide) ?_
          exact v_reti C hA dX5_isAgainst_73 rfl (by refine ⟨?_, ?_⟩ <;> first | (simp [bI, *]; done) | (simp_all [bI]; done))
  · refine v_aload_n C dX5_isAgainst_10 0 rfl ?_
    refine v_get C f_X5_25 dX5_isAgainst_11 0 rfl rfl ?_
    refine v_iload_n C dX5_isAgainst_14 1 rfl ?_
    refine v_zaldN C dX5_isAgainst_15 3 rfl j rfl (by omega) (by decide) ?_
    refine v_if_eq C 38 dX5_isAgainst_16 (by decide) (fun c7 => ?_) (fun c7 => ?_)
    · refine v_aload_n C dX5_isAgainst_38 0 rfl ?_
      refine v_iload_n C dX5_isAgainst_39 2 rfl ?_
      refine v_callRi C l_X5_153 (m_X5_isCrime b wl c d n_fa n_tr n_mi n_ju n_co n_at n_rm n_rj n_rc n_nw n_ov n_rl n_rd n_de hc hd hd6 hwl) (by decide) dX5_isAgainst_40 [0, 5] rfl 0 rfl rfl rfl (rest := []) rfl (Nat.le_of_ble_eq_true rfl) (by decide) (fun r8 h9 => ?_)
      subst h9
      by_cases c10 : wl.testBit d = true
      · refine v_eqi 1 (bI_t c10) ?_
        refine v_if_ne C 68 dX5_isAgainst_43 (by decide) (fun _ => ?_) (fun h => absurd h (by decide))
        refine v_iconst C 1 dX5_isAgainst_68 (by decide) ?_
        refine v_goto C 73 dX5_isAgainst_69 (by decide) ?_
        exact v_reti C hA dX5_isAgainst_73 rfl (by refine ⟨?_, ?_⟩ <;> first | (simp [bI, *]; done) | (simp_all [bI]; done))
      · refine v_eqi 0 (bI_f c10) ?_
        refine v_if_ne C 68 dX5_isAgainst_43 (by decide) (fun h => absurd h (by decide)) (fun _ => ?_)
        refine v_aload_n C dX5_isAgainst_46 0 rfl ?_
        refine v_get C f_X5_19 dX5_isAgainst_47 0 rfl rfl ?_
        refine v_iload_n C dX5_isAgainst_50 1 rfl ?_
        refine v_ialdN C dX5_isAgainst_51 1 rfl j rfl (by omega) (by decide) ?_
        refine v_iconst C 1 dX5_isAgainst_52 (by decide) ?_
        refine v_icmp_ne C 72 dX5_isAgainst_53 (by decide) (fun c11 => ?_) (fun c11 => ?_)
        · refine v_iconst C 0 dX5_isAgainst_72 (by decide) ?_
          exact v_reti C hA dX5_isAgainst_73 rfl (by refine ⟨?_, ?_⟩ <;> first | (simp [bI, *]; done) | (simp_all [bI]; done))
        · refine v_iload_n C dX5_isAgainst_56 3 rfl ?_
          refine v_iconst C 5 dX5_isAgainst_57 (by decide) ?_
          refine v_aload_n C dX5_isAgainst_58 0 rfl ?_
          refine v_get C f_X5_22 dX5_isAgainst_59 0 rfl rfl ?_
          refine v_iload_n C dX5_isAgainst_62 1 rfl ?_
          refine v_ialdN C dX5_isAgainst_63 2 rfl j rfl (by omega) (by decide) ?_
          refine v_imul C dX5_isAgainst_64 ?_
          refine v_icmp_lt C 72 dX5_isAgainst_65 (by decide) (fun c12 => ?_) (fun c12 => ?_)
          · refine v_iconst C 0 dX5_isAgainst_72 (by decide) ?_
            exact v_reti C hA dX5_isAgainst_73 rfl (by refine ⟨?_, ?_⟩ <;> first | (simp [bI, *]; done) | (simp_all [bI]; done))
          · refine v_iconst C 1 dX5_isAgainst_68 (by decide) ?_
            refine v_goto C 73 dX5_isAgainst_69 (by decide) ?_
            exact v_reti C hA dX5_isAgainst_73 rfl (by refine ⟨?_, ?_⟩ <;> first | (simp [bI, *]; done) | (simp_all [bI]; done))
    · refine v_aload_n C dX5_isAgainst_19 0 rfl ?_
      refine v_get C f_X5_53 dX5_isAgainst_20 0 rfl rfl ?_
      refine v_iload_n C dX5_isAgainst_23 1 rfl ?_
      refine v_zaldN C dX5_isAgainst_24 4 rfl j rfl (by omega) (by decide) ?_
      refine v_if_ne C 38 dX5_isAgainst_25 (by decide) (fun c13 => ?_) (fun c13 => ?_)
      · refine v_aload_n C dX5_isAgainst_38 0 rfl ?_
        refine v_iload_n C dX5_isAgainst_39 2 rfl ?_
        refine v_callRi C l_X5_153 (m_X5_isCrime b wl c d n_fa n_tr n_mi n_ju n_co n_at n_rm n_rj n_rc n_nw n_ov n_rl n_rd n_de hc hd hd6 hwl) (by decide) dX5_isAgainst_40 [0, 5] rfl 0 rfl rfl rfl (rest := []) rfl (Nat.le_of_ble_eq_true rfl) (by decide) (fun r14 h15 => ?_)
        subst h15
        by_cases c16 : wl.testBit d = true
        · refine v_eqi 1 (bI_t c16) ?_
          refine v_if_ne C 68 dX5_isAgainst_43 (by decide) (fun _ => ?_) (fun h => absurd h (by decide))
          refine v_iconst C 1 dX5_isAgainst_68 (by decide) ?_
          refine v_goto C 73 dX5_isAgainst_69 (by decide) ?_
          exact v_reti C hA dX5_isAgainst_73 rfl (by refine ⟨?_, ?_⟩ <;> first | (simp [bI, *]; done) | (simp_all [bI]; done))
        · refine v_eqi 0 (bI_f c16) ?_
          refine v_if_ne C 68 dX5_isAgainst_43 (by decide) (fun h => absurd h (by decide)) (fun _ => ?_)
          refine v_aload_n C dX5_isAgainst_46 0 rfl ?_
          refine v_get C f_X5_19 dX5_isAgainst_47 0 rfl rfl ?_
          refine v_iload_n C dX5_isAgainst_50 1 rfl ?_
          refine v_ialdN C dX5_isAgainst_51 1 rfl j rfl (by omega) (by decide) ?_
          refine v_iconst C 1 dX5_isAgainst_52 (by decide) ?_
          refine v_icmp_ne C 72 dX5_isAgainst_53 (by decide) (fun c17 => ?_) (fun c17 => ?_)
          · refine v_iconst C 0 dX5_isAgainst_72 (by decide) ?_
            exact v_reti C hA dX5_isAgainst_73 rfl (by refine ⟨?_, ?_⟩ <;> first | (simp [bI, *]; done) | (simp_all [bI]; done))
          · refine v_iload_n C dX5_isAgainst_56 3 rfl ?_
            refine v_iconst C 5 dX5_isAgainst_57 (by decide) ?_
            refine v_aload_n C dX5_isAgainst_58 0 rfl ?_
            refine v_get C f_X5_22 dX5_isAgainst_59 0 rfl rfl ?_
            refine v_iload_n C dX5_isAgainst_62 1 rfl ?_
            refine v_ialdN C dX5_isAgainst_63 2 rfl j rfl (by omega) (by decide) ?_
            refine v_imul C dX5_isAgainst_64 ?_
            refine v_icmp_lt C 72 dX5_isAgainst_65 (by decide) (fun c18 => ?_) (fun c18 => ?_)
            · refine v_iconst C 0 dX5_isAgainst_72 (by decide) ?_
              exact v_reti C hA dX5_isAgainst_73 rfl (by refine ⟨?_, ?_⟩ <;> first | (simp [bI, *]; done) | (simp_all [bI]; done))
            · refine v_iconst C 1 dX5_isAgainst_68 (by decide) ?_
              refine v_goto C 73 dX5_isAgainst_69 (by decide) ?_
              exact v_reti C hA dX5_isAgainst_73 rfl (by refine ⟨?_, ?_⟩ <;> first | (simp [bI, *]; done) | (simp_all [bI]; done))
      · refine v_aload_n C dX5_isAgainst_28 0 rfl ?_
        refine v_get C f_X5_53 dX5_isAgainst_29 0 rfl rfl ?_
        refine v_iload_n C dX5_isAgainst_32 1 rfl ?_
        refine v_iload C dX5_isAgainst_33 4 rfl ?_
        refine v_zastN C [oN b n_fa n_tr n_mi n_ju n_co (nI wl) n_at n_rm n_rj n_rc n_nw n_ov n_rl n_rd, ia (b 9) cI 5 n_kd, ia (b 10) cI 5 n_ag, ia (b 11) cB 5 n_hS, ia (b 26) cB 5 (upd n_iE j 0), ia (b 13) cI 5 n_de] dX5_isAgainst_35 4 rfl j rfl (by omega) (by decide) rfl rfl ?_
        refine v_iconst C 0 dX5_isAgainst_36 (by decide) ?_
        exact v_reti C hA dX5_isAgainst_37 rfl (by refine ⟨?_, ?_⟩ <;> first | (simp [bI, *]; done) | (simp_all [bI]; done))
set_option maxHeartbeats 4000000 in
set_option maxRecDepth 100000 in
theorem m_X5_verdictOf {l : Launch} {D : va_G} {cI cB cS : ClassId} (b : Nat → Nat) (wl c d nj s0 un st : Nat) (n_fa : Int32) (n_tr : Int32) (n_mi : Int32) (n_co : Int32) (n_at : Int32) (n_rm : Int32) (n_rj : Int32) (n_rc : Int32) (n_nw : Int32) (n_ov : Int32) (n_rl : Int32) (n_rd : Int32) (n_kd : Nat → Int32) (n_ag : Nat → Int32) (n_hS : Nat → Int32) (n_iS : Nat → Int32) (n_iE : Nat → Int32) (n_de : Nat → Int32) (hc : c < 5) (hd : n_de c = nI d) (hd6 : d < 6) (hwl : wl < 64) (hnj : nj ≤ 5) (hhS : ∀ j, j < nj → n_hS j = bA s0 j) (hiS : ∀ j, j < nj → n_iS j = bA st j) (hEA : EA nj s0 un.testBit n_iE) : Mi l yX5_verdictOf cX5_verdictOf 5 (some .int) 2 45 D cI cB cS [.ref (b 0), .int (nI c)] [oN b n_fa n_tr n_mi (nI nj) n_co (nI wl) n_at n_rm n_rj n_rc n_nw n_ov n_rl n_rd, ia (b 9) cI 5 n_kd, ia (b 10) cI 5 n_ag, ia (b 11) cB 5 n_hS, ia (b 12) cB 5 n_iS, ia (b 26) cB 5 n_iE, ia (b 13) cI 5 n_de] (fun r w => ∃ iE', r = vdF nj n_kd n_ag un st (wl.testBit d) n_nw ∧ w = [oN b n_fa n_tr n_mi (nI nj) n_co (nI wl) n_at n_rm n_rj n_rc n_nw n_ov n_rl n_rd, ia (b 9) cI 5 n_kd, ia (b 10) cI 5 n_ag, ia (b 11) cB 5 n_hS, ia (b 12) cB 5 n_iS, ia (b 26) cB 5 iE', ia (b 13) cI 5 n_de] ∧ EA nj s0 (unF nj n_kd un st).testBit iE') := by
  refine Mi.of (by decide) (Nat.le_of_ble_eq_true rfl) ?_
  intro zp ze zs zm zb zt zc zz zA hA C hnm
  refine v_lv0 [(0, .ref (b 0)), (1, .int (nI c))] rfl ?_
  refine v_iconst C 0 dX5_verdictOf_0 (by decide) ?_
  refine v_istore_n C [(2, .int 0), (0, .ref (b 0)), (1, .int (nI c))] dX5_verdictOf_1 (by decide) rfl ?_
  refine v_iconst C 0 dX5_verdictOf_2 (by decide) ?_
  refine v_istore_n C [(3, .int 0), (2, .int 0), (0, .ref (b 0)), (1, .int (nI c))] dX5_verdictOf_3 (by decide) rfl ?_
  refine v_iconst C 0 dX5_verdictOf_4 (by decide) ?_
  refine v_istore C [(4, .int 0), (3, .int 0), (2, .int 0), (0, .ref (b 0)), (1, .int (nI c))] dX5_verdictOf_5 (by decide) rfl ?_
  have lp : ∀ (n_2 : Nat) (i : Nat) (al : Nat) (g : Nat) (iE1 : Nat → Int32), nj - i < n_2 → (i ≤ nj) → (al = ct (voB st) i) → (g = ct (gB n_kd n_ag un st (wl.testBit d) n_nw) i) → (EA nj s0 (unBi n_kd un st i) iE1) → V zp l ze (rmOf 2 45) zs zm [.ref (b 0), .int (nI c)].toArray zb zt zc D (IM zA zs) (QMi zb [.ref (b 0), .int (nI c)].toArray zs D cI cB cS [oN b n_fa n_tr n_mi (nI nj) n_co (nI wl) n_at n_rm n_rj n_rc n_nw n_ov n_rl n_rd, ia (b 9) cI 5 n_kd, ia (b 10) cI 5 n_ag, ia (b 11) cB 5 n_hS, ia (b 12) cB 5 n_iS, ia (b 26) cB 5 n_iE, ia (b 13) cI 5 n_de] zz (fun r w => ∃ iE', r = vdF nj n_kd n_ag un st (wl.testBit d) n_nw ∧ w = [oN b n_fa n_tr n_mi (nI nj) n_co (nI wl) n_at n_rm n_rj n_rc n_nw n_ov n_rl n_rd, ia (b 9) cI 5 n_kd, ia (b 10) cI 5 n_ag, ia (b 11) cB 5 n_hS, ia (b 12) cB 5 n_iS, ia (b 26) cB 5 iE', ia (b 13) cI 5 n_de] ∧ EA nj s0 (unF nj n_kd un st).testBit iE')) 0 0 5 [oN b n_fa n_tr n_mi (nI nj) n_co (nI wl) n_at n_rm n_rj n_rc n_nw n_ov n_rl n_rd, ia (b 9) cI 5 n_kd, ia (b 10) cI 5 n_ag, ia (b 11) cB 5 n_hS, ia (b 12) cB 5 n_iS, ia (b 26) cB 5 iE1, ia (b 13) cI 5 n_de] [(4, .int (nI i)), (2, .int (nI al)), (3, .int (nI g)), (0, .ref (b 0)), (1, .int (nI c))] 7 [] := by
    intro n_2
    induction n_2 with
    | zero => intro i al g iE1 b1; exact absurd b1 (by omega)
    | succ n_2 ihn_2 =>
      intro i al g iE1 b1 hi ha hg hE
      refine v_iload C dX5_verdictOf_7 0 rfl ?_
      refine v_aload_n C dX5_verdictOf_9 3 rfl ?_
      refine v_get C f_X5_78 dX5_verdictOf_10 0 rfl rfl ?_
      refine v_icmp_ge C 58 dX5_verdictOf_13 (by decide) (fun c3 => ?_) (fun c3 => ?_)
      · have nc3 : nj ≤ i := nI_leD c3 (by omega)
        have hie : i = nj := by omega
        have q1 := ct_le (voB st) i
        have q2 := ct_le (gB n_kd n_ag un st (wl.testBit d) n_nw) i
        refine v_iconst C 2 dX5_verdictOf_58 (by decide) ?_
        refine v_iload_n C dX5_verdictOf_59 2 rfl ?_
        refine v_imul C dX5_verdictOf_60 ?_
        refine v_eqi (nI (2 * g)) (pk_mul 2 g) ?_
        refine v_iload_n C dX5_verdictOf_61 1 rfl ?_
        refine v_icmp_le C 69 dX5_verdictOf_62 (by decide) (fun c4 => ?_) (fun c4 => ?_)
        · have nc4 : (2 * g) ≤ al := nI_leD c4 (by omega)
          refine v_iconst C 0 dX5_verdictOf_69 (by decide) ?_
          exact v_reti C hA dX5_verdictOf_70 rfl (⟨iE1, by rw [vdF, ← hie, ← ha, ← hg]; rw [if_neg (by omega)], rfl, EA_end (by rw [hie] at hE; exact hE)⟩)
        · have nc4 : al < (2 * g) := nI_ltD c4 (by omega)
          refine v_iconst C 1 dX5_verdictOf_65 (by decide) ?_
          refine v_goto C 70 dX5_verdictOf_66 (by decide) ?_
          exact v_reti C hA dX5_verdictOf_70 rfl (⟨iE1, by rw [vdF, ← hie, ← ha, ← hg]; rw [if_pos (by omega)], rfl, EA_end (by rw [hie] at hE; exact hE)⟩)
      · have nc3 : i < nj := nI_ltD c3 (by omega)
        have hin : i < nj := nc3
        refine v_aload_n C dX5_verdictOf_16 3 rfl ?_
        refine v_get C f_X5_29 dX5_verdictOf_17 0 rfl rfl ?_
        refine v_iload C dX5_verdictOf_20 0 rfl ?_
        refine v_zaldN C dX5_verdictOf_22 4 rfl i rfl (by omega) (by decide) ?_
        refine v_if_ne C 52 dX5_verdictOf_23 (by decide) (fun c5 => ?_) (fun c5 => ?_)
        · have hv : voB st i = false := by have q := c5; rw [hiS i hin] at q; unfold voB; rw [bA_n.mp q]; rfl
          refine v_iinc C (nI (i + 1)) [(4, .int (nI (i + 1))), (2, .int (nI al)), (3, .int (nI g)), (0, .ref (b 0)), (1, .int (nI c))] 0 dX5_verdictOf_52 rfl (nI_inc _) (by decide) rfl ?_
          refine v_goto C 7 dX5_verdictOf_55 (by decide) ?_
          exact ihn_2 (i + 1) al g iE1 (by omega) (by omega) (by rw [ct, ha, hv]; simp) (by rw [ct, hg]; simp [gB, hv]) (EA_skip (by simp [unB, hv]) hE)
        · have hv : voB st i = true := by have q := c5; rw [hiS i hin] at q; unfold voB; rw [bA_0.mp q]; rfl
          refine v_iinc C (nI (al + 1)) [(2, .int (nI (al + 1))), (4, .int (nI i)), (3, .int (nI g)), (0, .ref (b 0)), (1, .int (nI c))] 1 dX5_verdictOf_26 rfl (nI_inc _) (by decide) rfl ?_
          refine v_iload_n C dX5_verdictOf_29 2 rfl ?_
          refine v_aload_n C dX5_verdictOf_30 3 rfl ?_
          refine v_iload C dX5_verdictOf_31 1 rfl ?_
          refine v_iload_n C dX5_verdictOf_33 4 rfl ?_
          refine v_aload_n C dX5_verdictOf_34 3 rfl ?_
          refine v_get C f_X5_146 dX5_verdictOf_35 0 rfl rfl ?_
          refine v_iconst C 1 dX5_verdictOf_38 (by decide) ?_
          refine v_callMi C l_X5_156 (m_X5_isAgainst1 b wl c d i n_fa n_tr n_mi (nI nj) n_co n_at n_rm n_rj n_rc n_nw n_ov n_rl n_rd n_kd n_ag n_hS iE1 n_de n_nw (by omega) hc hd hd6 hwl) (by decide) dX5_verdictOf_39 [0, 1, 2, 3, 5, 6] [4] (wr := [ia (b 12) cB 5 n_iS]) (by decide) rfl rfl (by decide) (by decide) 0 rfl rfl rfl (rest := [.int (nI g)]) rfl (Nat.le_of_ble_eq_true rfl) (by decide) (fun r8 w6 h7 => ?_)
          obtain ⟨rfl, rfl⟩ := h7
          refine v_ws0 [ia (b 12) cB 5 n_iS, oN b n_fa n_tr n_mi (nI nj) n_co (nI wl) n_at n_rm n_rj n_rc n_nw n_ov n_rl n_rd, ia (b 9) cI 5 n_kd, ia (b 10) cI 5 n_ag, ia (b 11) cB 5 n_hS, ia (b 26) cB 5 (if n_kd i = 2 ∧ ¬ n_hS i = 0 ∧ iE1 i = 0 then upd iE1 i 1 else iE1), ia (b 13) cI 5 n_de] rfl ?_
          by_cases c9 : ¬ (n_kd i = 2 ∧ ¬ n_hS i = 0 ∧ iE1 i = 0) ∧ (wl.testBit d = true ∨ (n_kd i = 1 ∧ ¬ n_nw < 5 * n_ag i))
          · refine v_eqi 1 (bI_t c9) ?_
            refine v_if_eq C 49 dX5_verdictOf_42 (by decide) (fun h => absurd h (by decide)) (fun _ => ?_)
            refine v_iconst C 1 dX5_verdictOf_45 (by decide) ?_
            refine v_goto C 50 dX5_verdictOf_46 (by decide) ?_
            refine v_iadd C dX5_verdictOf_50 ?_
            refine v_eqi (nI (g + 1)) (nI_1 g) ?_
            refine v_istore_n C [(3, .int (nI (g + 1))), (2, .int (nI (al + 1))), (4, .int (nI i)), (0, .ref (b 0)), (1, .int (nI c))] dX5_verdictOf_51 (by decide) rfl ?_
            refine v_iinc C (nI (i + 1)) [(4, .int (nI (i + 1))), (3, .int (nI (g + 1))), (2, .int (nI (al + 1))), (0, .ref (b 0)), (1, .int (nI c))] 2 dX5_verdictOf_52 rfl (nI_inc _) (by decide) rfl ?_
            refine v_goto C 7 dX5_verdictOf_55 (by decide) ?_
            refine v_perm (ws' := [oN b n_fa n_tr n_mi (nI nj) n_co (nI wl) n_at n_rm n_rj n_rc n_nw n_ov n_rl n_rd, ia (b 9) cI 5 n_kd, ia (b 10) cI 5 n_ag, ia (b 11) cB 5 n_hS, ia (b 12) cB 5 n_iS, ia (b 26) cB 5 (if n_kd i = 2 ∧ ¬ n_hS i = 0 ∧ iE1 i = 0 then upd iE1 i 1 else iE1), ia (b 13) cI 5 n_de]) [1, 2, 3, 4, 0, 5, 6] (by decide) rfl ?_
            refine v_loc [0, 2, 1, 3, 4] (lv' := [(4, .int (nI (i + 1))), (2, .int (nI (al + 1))), (3, .int (nI (g + 1))), (0, .ref (b 0)), (1, .int (nI c))]) rfl ?_
            have hgo := EA_go hin hE
            rw [← hhS i hin] at hgo
            have hgb := gB_iff (tk := n_kd) (ag := n_ag) (un := un) (st := st) (i := i) (mi := n_nw) (b := wl.testBit d) (cr := bI (wl.testBit d = true)) hv (by cases wl.testBit d <;> simp [bI])
            have hgs : (gB n_kd n_ag un st (wl.testBit d) n_nw) i = true ↔ ¬ (n_kd i = 2 ∧ ¬ n_hS i = 0 ∧ iE1 i = 0) ∧ (wl.testBit d = true ∨ (n_kd i = 1 ∧ ¬ n_nw < 5 * n_ag i)) := by rw [hgb, ← hgo]; cases wl.testBit d <;> simp [bI]
            exact ihn_2 (i + 1) (al + 1) (g + 1) (if n_kd i = 2 ∧ ¬ n_hS i = 0 ∧ iE1 i = 0 then upd iE1 i 1 else iE1) (by omega) (by omega) (by rw [ct, ha, hv]; simp) (by rw [ct, hg, hgs.mpr c9]; simp) (EA_vote hin (hhS i hin) hv hE)
          · refine v_eqi 0 (bI_f c9) ?_
            refine v_if_eq C 49 dX5_verdictOf_42 (by decide) (fun _ => ?_) (fun h => absurd h (by decide))
            refine v_iconst C 0 dX5_verdictOf_49 (by decide) ?_
            refine v_iadd C dX5_verdictOf_50 ?_
            refine v_eqi (nI g) (Int32.add_zero _) ?_
            refine v_istore_n C [(3, .int (nI g)), (2, .int (nI (al + 1))), (4, .int (nI i)), (0, .ref (b 0)), (1, .int (nI c))] dX5_verdictOf_51 (by decide) rfl ?_
            refine v_iinc C (nI (i + 1)) [(4, .int (nI (i + 1))), (3, .int (nI g)), (2, .int (nI (al + 1))), (0, .ref (b 0)), (1, .int (nI c))] 2 dX5_verdictOf_52 rfl (nI_inc _) (by decide) rfl ?_
            refine v_goto C 7 dX5_verdictOf_55 (by decide) ?_
            refine v_perm (ws' := [oN b n_fa n_tr n_mi (nI nj) n_co (nI wl) n_at n_rm n_rj n_rc n_nw n_ov n_rl n_rd, ia (b 9) cI 5 n_kd, ia (b 10) cI 5 n_ag, ia (b 11) cB 5 n_hS, ia (b 12) cB 5 n_iS, ia (b 26) cB 5 (if n_kd i = 2 ∧ ¬ n_hS i = 0 ∧ iE1 i = 0 then upd iE1 i 1 else iE1), ia (b 13) cI 5 n_de]) [1, 2, 3, 4, 0, 5, 6] (by decide) rfl ?_
            refine v_loc [0, 2, 1, 3, 4] (lv' := [(4, .int (nI (i + 1))), (2, .int (nI (al + 1))), (3, .int (nI g)), (0, .ref (b 0)), (1, .int (nI c))]) rfl ?_
            have hgo := EA_go hin hE
            rw [← hhS i hin] at hgo
            have hgb := gB_iff (tk := n_kd) (ag := n_ag) (un := un) (st := st) (i := i) (mi := n_nw) (b := wl.testBit d) (cr := bI (wl.testBit d = true)) hv (by cases wl.testBit d <;> simp [bI])
            have hgs : (gB n_kd n_ag un st (wl.testBit d) n_nw) i = true ↔ ¬ (n_kd i = 2 ∧ ¬ n_hS i = 0 ∧ iE1 i = 0) ∧ (wl.testBit d = true ∨ (n_kd i = 1 ∧ ¬ n_nw < 5 * n_ag i)) := by rw [hgb, ← hgo]; cases wl.testBit d <;> simp [bI]
            exact ihn_2 (i + 1) (al + 1) g (if n_kd i = 2 ∧ ¬ n_hS i = 0 ∧ iE1 i = 0 then upd iE1 i 1 else iE1) (by omega) (by omega) (by rw [ct, ha, hv]; simp) (by rw [ct, hg, if_neg (fun q => c9 (hgs.mp q))]; rfl) (EA_vote hin (hhS i hin) hv hE)
  refine v_loc [0, 2, 1, 3, 4] (lv' := [(4, .int 0), (2, .int 0), (3, .int 0), (0, .ref (b 0)), (1, .int (nI c))]) rfl ?_
  exact lp (nj - 0 + 1) 0 0 0 n_iE (by omega) (by omega) rfl rfl (EA_0 hEA)
