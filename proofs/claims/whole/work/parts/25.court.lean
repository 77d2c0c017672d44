/-! texts: what a text without fault is -/
theorem cfN_le {f : Nat → Int32} {p : Nat} (h : cfN f p = none) : ∀ q, q ≤ p → cfN f q = none := by
  intro q hq
  induction p with
  | zero => rw [show q = 0 by omega]; exact h
  | succ p ih =>
    by_cases e : q = p + 1
    · rw [e]; exact h
    · rw [cfN] at h
      cases hp : cfN f p with
      | some c => rw [hp] at h; cases h
      | none => exact ih hp (by omega)
theorem cfN_no {f : Nat → Int32} {p : Nat} (h : cfN f (p + 1) = none) : ¬ f p = 59 := by
  intro q
  have h0 := cfN_le h p (by omega)
  rw [cfN_semi h0 q] at h
  cases h
theorem cfN_spec {f : Nat → Int32} {F : Nat} : ∀ {n : Nat}, cfN f n = some F → F < n ∧ f F = 59 ∧ cfN f F = none ∧ ∀ p, F < p → p ≤ n → cfN f p = some F
  | 0, h => by cases h
  | n + 1, h => by
    cases hn : cfN f n with
    | some c =>
      have e := h
      rw [cfN, hn] at e
      cases e
      obtain ⟨h1, h2, h3, h4⟩ := cfN_spec hn
      refine ⟨by omega, h2, h3, fun p hp hp2 => ?_⟩
      by_cases e : p = n + 1
      · rw [e]; exact h
      · exact h4 p hp (by omega)
    | none =>
      have e := h
      rw [cfN, hn] at e
      by_cases h59 : f n = 59
      · simp only [h59, if_true] at e
        have e2 : n = F := Option.some.inj e
        refine ⟨by omega, by rw [← e2]; exact h59, by rw [← e2]; exact hn, fun p hp hp2 => ?_⟩
        rw [show p = n + 1 by omega]; exact h
      · simp only [h59, if_false] at e
        cases e
theorem ffR_none {f : Nat → Int32} {n : Nat} : ∀ k p, p + k = n → ffR f n k p = none → (∀ q, p ≤ q → q < n → goB f q (cfN f q) = true) ∧ whB f n = true
  | 0, p, hp, h => by
    rw [ffR] at h
    refine ⟨fun q h1 h2 => absurd h2 (by omega), ?_⟩
    by_cases hw : whB f n = true
    · exact hw
    · rw [if_neg hw] at h; cases h
  | k + 1, p, hp, h => by
    rw [ffR] at h
    by_cases hg : goB f p (cfN f p) = true
    · rw [if_pos hg] at h
      obtain ⟨h1, h2⟩ := ffR_none k (p + 1) (by omega) h
      refine ⟨fun q a b => ?_, h2⟩
      by_cases e : q = p
      · rw [e]; exact hg
      · exact h1 q (by omega) b
    · rw [if_neg hg] at h; cases h
theorem ffR_le {f : Nat → Int32} {n : Nat} : ∀ k p q, p + k = n → ffR f n k p = some q → q ≤ n
  | 0, p, q, hp, h => by
    rw [ffR] at h
    split at h
    · cases h
    · cases h; omega
  | k + 1, p, q, hp, h => by
    rw [ffR] at h
    split at h
    · exact ffR_le k (p + 1) q (by omega) h
    · cases h; omega
theorem ffF_le {f : Nat → Int32} {n q : Nat} (h : ffF f n = some q) : q ≤ n := ffR_le n 0 q (by omega) h
theorem dg_nat {x : Int32} {a b : Nat} (ha : a < 10) (hb : b < 10) (h : dgB x (nI a) (nI b) = true) : ∃ d, a ≤ d ∧ d ≤ b ∧ x - 48 = nI d := by
  unfold dgB at h
  simp only [Bool.and_eq_true, Bool.not_eq_true', decide_eq_false_iff_not] at h
  obtain ⟨h1, h2⟩ := h
  have e1 : (48 : Int32) + nI a = nI (48 + a) := nI_add 48 a
  have e2 : (48 : Int32) + nI b = nI (48 + b) := nI_add 48 b
  rw [e1] at h1
  rw [e2] at h2
  have h0 : ¬ x < 0 := fun q => h1 (Int32.lt_trans q (nI_lt (a := 0) (by omega) (by omega)))
  obtain ⟨k, hk, rfl⟩ := nI_of h0
  have b1 := nI_geP h1 (by omega)
  have b2 := nI_geP h2 hk
  exact ⟨k - 48, by omega, by omega, pk_sub (b := 48) (by omega)⟩
theorem txt_ok {f : Nat → Int32} {n : Nat} (h : ffF f n = none) : ∃ nj nc, 1 ≤ nj ∧ nj ≤ 5 ∧ 1 ≤ nc ∧ nc ≤ 5 ∧ n = 3 + 3 * nj + 4 * nc ∧ cfN f n = some (3 + 3 * nj) ∧ (∀ c, c < nc → ∃ d, d < 6 ∧ f (3 + 3 * nj + 4 * c + 1) - 48 = nI d) ∧ (∀ c, c < nc → ∃ d, d ≤ 9 ∧ f (3 + 3 * nj + 4 * c + 3) - 48 = nI d) := by
  obtain ⟨hg, hw⟩ := ffR_none n 0 (by omega) h
  unfold whB whC at hw
  cases hF : cfN f n with
  | none => rw [hF] at hw; cases hw
  | some F =>
    rw [hF] at hw
    simp only [decide_eq_true_eq] at hw
    obtain ⟨h1, h2, h3, h4⟩ := cfN_spec hF
    have gF := hg F (by omega) h1
    rw [h3] at gF
    have hF3 : 3 ≤ F ∧ (F - 3) % 3 = 0 ∧ 0 < (F - 3) / 3 := by
      unfold goB at gF
      by_cases e0 : F = 0
      · subst e0
        rw [if_pos rfl, h2] at gF
        exact absurd gF (by decide)
      · rw [if_neg e0] at gF
        by_cases e3 : F < 3
        · rw [if_pos e3] at gF
          unfold gmB at gF
          rw [h2] at gF
          by_cases e1 : F = 1
          · rw [if_pos e1] at gF
            exact absurd gF (by decide)
          · rw [if_neg e1] at gF
            rw [show dgB 59 0 9 = false by decide] at gF
            exact absurd gF (by simp)
        · rw [if_neg e3] at gF
          dsimp only at gF
          unfold gjB at gF
          rw [h2] at gF
          by_cases r0 : (F - 3) % 3 = 0
          · rw [if_pos r0] at gF
            refine ⟨by omega, r0, ?_⟩
            simpa using gF
          · rw [if_neg r0] at gF
            by_cases r1 : (F - 3) % 3 = 1
            · rw [if_pos r1] at gF
              exact absurd gF (by decide)
            · rw [if_neg r1] at gF
              exact absurd gF (by decide)
    obtain ⟨a1, a2, a3⟩ := hF3
    have e3 : 3 + 3 * ((F - 3) / 3) = F := by omega
    have e4 : F + 4 * ((n - F) / 4) = n := by omega
    have key : ∀ q, F < q → q < n → gcB f q F = true := by
      intro q hq1 hq2
      have g := hg q (by omega) hq2
      rw [h4 q hq1 (by omega)] at g
      unfold goB at g
      rw [if_neg (by omega), if_neg (by omega)] at g
      exact g
    refine ⟨(F - 3) / 3, (n - F) / 4, by omega, ?_, by omega, ?_, by omega, by rw [e3], fun c hc => ?_, fun c hc => ?_⟩
    · -- at most five jurors
      have hq : 3 + 3 * ((F - 3) / 3 - 1) < F := by omega
      have g := hg (3 + 3 * ((F - 3) / 3 - 1)) (by omega) (by omega)
      rw [cfN_le h3 _ (by omega)] at g
      have n59 := cfN_no (f := f) (p := 3 + 3 * ((F - 3) / 3 - 1)) (cfN_le h3 _ (by omega))
      unfold goB at g
      rw [if_neg (by omega), if_neg (by omega)] at g
      dsimp only at g
      unfold gjB at g
      rw [if_pos (by omega)] at g
      simp only [n59, decide_false, Bool.false_and, Bool.or_false, Bool.and_eq_true, decide_eq_true_eq] at g
      have := g.2
      omega
    · -- at most five cases
      by_cases e : (n - F) / 4 ≤ 1
      · omega
      · have g := key (F + 4 * ((n - F) / 4 - 1)) (by omega) (by omega)
        unfold gcB at g
        rw [if_pos (by omega)] at g
        simp only [Bool.and_eq_true, decide_eq_true_eq] at g
        have := g.2
        omega
    · have g := key (3 + 3 * ((F - 3) / 3) + 4 * c + 1) (by omega) (by omega)
      unfold gcB at g
      rw [if_neg (by omega), if_pos (by omega)] at g
      obtain ⟨d, -, d2, d3⟩ := dg_nat (a := 0) (b := 5) (by omega) (by omega) g
      exact ⟨d, by omega, d3⟩
    · have g := key (3 + 3 * ((F - 3) / 3) + 4 * c + 3) (by omega) (by omega)
      unfold gcB at g
      rw [if_neg (by omega), if_neg (by omega)] at g
      obtain ⟨d, -, d2, d3⟩ := dg_nat (a := 1) (b := 9) (by omega) (by omega) g
      exact ⟨d, by omega, d3⟩
theorem cfN_cong {f g : Nat → Int32} : ∀ {n : Nat}, (∀ p, p < n → f p = g p) → cfN f n = cfN g n
  | 0, _ => rfl
  | n + 1, h => by rw [cfN, cfN, cfN_cong (fun p hp => h p (by omega)), h n (by omega)]
theorem goB_cong {f g : Nat → Int32} {p : Nat} (cf : Option Nat) (h : ∀ q, q ≤ p → f q = g q) : goB f p cf = goB g p cf := by
  unfold goB
  rw [h p (Nat.le_refl p)]
  by_cases e0 : p = 0
  · rw [if_pos e0, if_pos e0]
  · rw [if_neg e0, if_neg e0]
    by_cases e3 : p < 3
    · rw [if_pos e3, if_pos e3]
      unfold gmB
      rw [h p (Nat.le_refl p)]
      by_cases e1 : p = 1
      · rw [if_pos e1, if_pos e1]
      · rw [if_neg e1, if_neg e1]
        unfold tmF
        rw [h 1 (by omega), h 2 (by omega)]
    · rw [if_neg e3, if_neg e3]
      cases cf with
      | none => unfold gjB; rw [h p (Nat.le_refl p)]
      | some c => unfold gcB; rw [h p (Nat.le_refl p)]
theorem ffR_cong {f g : Nat → Int32} {n : Nat} (h : ∀ p, p < n → f p = g p) : ∀ k p, p + k = n → ffR f n k p = ffR g n k p
  | 0, p, hp => by rw [ffR, ffR, whB, whB, cfN_cong h]
  | k + 1, p, hp => by rw [ffR, ffR, cfN_cong (fun q hq => h q (by omega)), goB_cong _ (fun q hq => h q (by omega)), ffR_cong h k (p + 1) (by omega)]
theorem ffF_cong {f g : Nat → Int32} {n : Nat} (h : ∀ p, p < n → f p = g p) : ffF f n = ffF g n := ffR_cong h n 0 (by omega)
theorem tbF_cong {v w f : Nat → Int32} {i : Nat} (h : ∀ j, j < i → v j = w j) : tbF v f i = tbF w f i := by
  funext j
  unfold tbF
  by_cases e : j < i
  · simp [e, h j e]
  · simp [e]
/-- a text of nj jurors and nc cases -/
def Tx (f : Nat → Int32) (n nj nc : Nat) : Prop := ffF f n = none ∧ cfN f n = some (3 + 3 * nj) ∧ 1 ≤ nj ∧ nj ≤ 5 ∧ 1 ≤ nc ∧ nc ≤ 5 ∧ n = 3 + 3 * nj + 4 * nc ∧ (∀ c, c < nc → ∃ d, d < 6 ∧ f (3 + 3 * nj + 4 * c + 1) - 48 = nI d) ∧ (∀ c, c < nc → ∃ d, d ≤ 9 ∧ f (3 + 3 * nj + 4 * c + 3) - 48 = nI d)
def coF (q x fc : Int32) : Int32 := if vS q then (if vL x then -10 - fc else -2) else -1
def coT (q x fc : Int32) : Int32 := if vS q ∧ vL x then fc else 0
theorem tm_cong {f g : Nat → Int32} {n : Nat} (h : ∀ p, p < n → f p = g p) (hn : 3 ≤ n) : tmF f = tmF g := by
  unfold tmF; rw [h 1 (by omega), h 2 (by omega)]
theorem kd_cong {f g : Nat → Int32} {n j : Nat} (h : ∀ p, p < n → f p = g p) (hn : 3 + 3 * j + 1 < n) : vKd f j = vKd g j := by
  unfold vKd; rw [h _ hn]
theorem ag_cong {f g : Nat → Int32} {n j : Nat} (h : ∀ p, p < n → f p = g p) (hn : 3 + 3 * j + 2 < n) : vAg f j = vAg g j := by
  unfold vAg; rw [h _ hn]
theorem ca_cong {f g : Nat → Int32} {n F v c : Nat} (h : ∀ p, p < n → f p = g p) (hn : F + 4 * c + 1 + v < n) : vCa f F v c = vCa g F v c := by
  unfold vCa; rw [h _ hn]
set_option maxHeartbeats 4000000 in
set_option maxRecDepth 100000 in
theorem m_X4_court {l : Launch} {D : va_G} {cI cB cS : ClassId} (a : Nat → Nat) (k g : Nat) (tr : Int32) (fa : Int32) (hs : Int32) (sl : Int32) (sc : Nat → Int32) (tl : Int32) (tf : Int32) (tc : Nat → Int32) (si : Int32) (ju : Int32) (ca : Int32) (la : Int32) (sw : Int32) (sk : Int32) (rd : Int32) (kd : Nat → Int32) (ag : Nat → Int32) (de : Nat → Int32) (ta : Nat → Int32) (we : Nat → Int32) (q : Int32) (x : Int32) (i : Int32) (n : Int32) (hk : k < 4) (hg : g ≤ 60) (hq : vS q → q = nI k) : Mi l yX4_court cX4_court 8 (some .int) 5 107 D cI cB cS [.ref (a 0), .int q, .int x, .int i, .int n] [oC a tr fa, aS a cS, oS a k hs sl (nI g), ia (a (14 + k)) cI 60 sc, oX a tl tf, ia (a 6) cI 60 tc, oK a si ju ca la sw sk rd, ia (a 20) cI 5 kd, ia (a 21) cI 5 ag, ia (a 22) cI 5 de, ia (a 23) cI 5 ta, ia (a 24) cI 5 we] (fun r w => (¬ (vS q ∧ vL x ∧ focF hs sl (nI g) x i n = 0) ∧ r = coF q x (focF hs sl (nI g) x i n) ∧ w = [oC a tr (coT q x (focF hs sl (nI g) x i n)), aS a cS, oS a k hs sl (nI g), ia (a (14 + k)) cI 60 sc, oX a tl tf, ia (a 6) cI 60 tc, oK a si ju ca la sw sk rd, ia (a 20) cI 5 kd, ia (a 21) cI 5 ag, ia (a 22) cI 5 de, ia (a 23) cI 5 ta, ia (a 24) cI 5 we]) ∨ ((vS q ∧ vL x ∧ focF hs sl (nI g) x i n = 0) ∧ ∃ (p : Nat) (tl' : Int32) (tf' : Int32) (tc' : Nat → Int32), ffF (fun px => sc (zN i + px)) (zN n) = some p ∧ r = -100 - nI p ∧ w = [oC a tr 0, aS a cS, oS a k hs sl (nI g), ia (a (14 + k)) cI 60 sc, oX a tl' tf', ia (a 6) cI 60 tc', oK a si ju ca la sw sk rd, ia (a 20) cI 5 kd, ia (a 21) cI 5 ag, ia (a 22) cI 5 de, ia (a 23) cI 5 ta, ia (a 24) cI 5 we]) ∨ ((vS q ∧ vL x ∧ focF hs sl (nI g) x i n = 0) ∧ ∃ (nj' nc' : Nat) (tl' : Int32) (tf' : Int32) (tc' : Nat → Int32), Tx (fun px => sc (zN i + px)) (zN n) nj' nc' ∧ r = nI nc' ∧ w = [oC a tr 0, aS a cS, oS a k hs sl (nI g), ia (a (14 + k)) cI 60 sc, oX a tl' tf', ia (a 6) cI 60 tc', oK a (tmF (fun px => sc (zN i + px))) (nI nj') (nI nc') 0 0 0 0, ia (a 20) cI 5 (tbF (vKd (fun px => sc (zN i + px))) kd nj'), ia (a 21) cI 5 (tbF (vAg (fun px => sc (zN i + px))) ag nj'), ia (a 22) cI 5 (tbF (vCa (fun px => sc (zN i + px)) (3 + 3 * nj') 0) de nc'), ia (a 23) cI 5 (tbF (vCa (fun px => sc (zN i + px)) (3 + 3 * nj') 1) ta nc'), ia (a 24) cI 5 (tbF (vCa (fun px => sc (zN i + px)) (3 + 3 * nj') 2) we nc')])) := by
  refine Mi.of (by decide) (Nat.le_of_ble_eq_true rfl) ?_
  intro zp ze zs zm zb zt zc zz zA hA C hnm
  refine v_lv0 [(0, .ref (a 0)), (1, .int q), (2, .int x), (3, .int i), (4, .int n)] rfl ?_
  refine v_aload_n C dX4_court_0 0 rfl ?_
  refine v_iconst C 0 dX4_court_1 (by decide) ?_
  refine v_put C p_X4_45 [oC a tr 0, aS a cS, oS a k hs sl (nI g), ia (a (14 + k)) cI 60 sc, oX a tl tf, ia (a 6) cI 60 tc, oK a si ju ca la sw sk rd, ia (a 20) cI 5 kd, ia (a 21) cI 5 ag, ia (a 22) cI 5 de, ia (a 23) cI 5 ta, ia (a 24) cI 5 we] dX4_court_2 0 rfl rfl rfl (Nat.le_of_ble_eq_true rfl) rfl ?_
  refine v_iload_n C dX4_court_5 1 rfl ?_
  refine v_callSi C l_X4_49 (m_X4_isSheet q) (by decide) dX4_court_6 [] rfl rfl (rest := []) rfl (Nat.le_of_ble_eq_true rfl) (by decide) (fun r1 h2 => ?_)
  subst h2
  by_cases c3 : vSb q = true
  · refine v_eqi 1 (bI_t c3) ?_
    refine v_if_ne C 14 dX4_court_9 (by decide) (fun _ => ?_) (fun h => absurd h (by decide))
    have hqk := hq c3
    refine v_iload_n C dX4_court_14 2 rfl ?_
    refine v_callSi C l_X4_53 (m_X4_isLane x) (by decide) dX4_court_15 [] rfl rfl (rest := []) rfl (Nat.le_of_ble_eq_true rfl) (by decide) (fun r4 h5 => ?_)
    subst h5
    by_cases c6 : vLb x = true
    · refine v_eqi 1 (bI_t c6) ?_
      refine v_if_ne C 24 dX4_court_18 (by decide) (fun _ => ?_) (fun h => absurd h (by decide))
      refine v_aload_n C dX4_court_24 0 rfl ?_
      refine v_get C f_X4_13 dX4_court_25 0 rfl rfl ?_
      refine v_iload_n C dX4_court_28 1 rfl ?_
      refine v_aaldN C dX4_court_29 1 rfl k hqk hk (by decide) (a (10 + k)) rfl ?_
      refine v_astore C [(5, .ref (a (10 + k))), (0, .ref (a 0)), (1, .int q), (2, .int x), (3, .int i), (4, .int n)] dX4_court_30 (by decide) rfl ?_
      refine v_aload C dX4_court_32 0 rfl ?_
      refine v_iload_n C dX4_court_34 3 rfl ?_
      refine v_iload_n C dX4_court_35 4 rfl ?_
      refine v_iload C dX4_court_36 5 rfl ?_
      refine v_callRi C l_X4_56 (m_X1_faultOfCells a k hs sl (nI g) x i n) (by decide) dX4_court_38 [2] rfl 2 rfl rfl rfl (rest := []) rfl (Nat.le_of_ble_eq_true rfl) (by decide) (fun r7 h8 => ?_)
      subst h8
      refine v_istore C [(6, .int (focF hs sl (nI g) x i n)), (5, .ref (a (10 + k))), (0, .ref (a 0)), (1, .int q), (2, .int x), (3, .int i), (4, .int n)] dX4_court_41 (by decide) rfl ?_
      refine v_iload C dX4_court_43 0 rfl ?_
      refine v_if_eq C 55 dX4_court_45 (by decide) (fun c9 => ?_) (fun c9 => ?_)
      · obtain ⟨iN, nN, hiN, hnN, hle⟩ := foc_0 hg c9
        have ei : zN i = iN := by rw [hiN]; exact nI_clamp (by omega)
        have en' : zN n = nN := by rw [hnN]; exact nI_clamp (by omega)
        refine v_lv0 [(6, .int (focF hs sl (nI g) x i n)), (5, .ref (a (10 + k))), (0, .ref (a 0)), (1, .int q), (2, .int x), (3, .int (nI iN)), (4, .int (nI nN))] (by rw [hiN, hnN]) ?_
        refine v_aload_n C dX4_court_55 2 rfl ?_
        refine v_get C f_X4_20 dX4_court_56 0 rfl rfl ?_
        refine v_aload C dX4_court_59 1 rfl ?_
        refine v_iload_n C dX4_court_61 5 rfl ?_
        refine v_iload C dX4_court_62 6 rfl ?_
        refine v_callMi C l_X4_64 (m_X3_firstFault a k iN nN tl tf tc hs sl (nI g) sc (by omega)) (by decide) dX4_court_64 [4, 5, 2, 3] [0, 1, 6, 7, 8, 9, 10, 11] (wr := [oC a tr 0, aS a cS, oK a si ju ca la sw sk rd, ia (a 20) cI 5 kd, ia (a 21) cI 5 ag, ia (a 22) cI 5 de, ia (a 23) cI 5 ta, ia (a 24) cI 5 we]) (by decide) rfl rfl (by decide) (by decide) 4 rfl rfl rfl (rest := []) rfl (Nat.le_of_ble_eq_true rfl) (by decide) (fun r12 w10 h11 => ?_)
        obtain ⟨rfl, tf_13, rfl, htf14⟩ := h11
        refine v_ws0 [oC a tr 0, aS a cS, oK a si ju ca la sw sk rd, ia (a 20) cI 5 kd, ia (a 21) cI 5 ag, ia (a 22) cI 5 de, ia (a 23) cI 5 ta, ia (a 24) cI 5 we, oX a (nI nN) tf_13, ia (a 6) cI 60 (va_cpy sc tc iN 0 nN), oS a k hs sl (nI g), ia (a (14 + k)) cI 60 sc] rfl ?_
        have hcg : ∀ px, px < nN → (va_cpy sc tc iN 0 nN) px = (fun px => sc (zN i + px)) px := by intro px hpx; rw [ei]; simp [va_cpy, hpx]
        cases hf15 : ffF (va_cpy sc tc iN 0 nN) nN with
        | none =>
          refine v_st0 [.int (-9)] rfl ?_
          refine v_istore C [(7, .int (-9)), (6, .int (focF hs sl (nI g) x i n)), (5, .ref (a (10 + k))), (0, .ref (a 0)), (1, .int q), (2, .int x), (3, .int (nI iN)), (4, .int (nI nN))] dX4_court_67 (by decide) rfl ?_
          refine v_iload C dX4_court_69 0 rfl ?_
          refine v_bipush C (-9) dX4_court_71 (by decide) ?_
          refine v_icmp_eq C 82 dX4_court_73 (by decide) (fun _ => ?_) (fun h => absurd h (by decide))
          have hff2 : ffF (fun px => sc (zN i + px)) (zN n) = none := by rw [en', ← hf15]; exact (ffF_cong hcg).symm
          obtain ⟨nj, nc, j1, j2, j3, j4, j5, j6, j7, j8⟩ := txt_ok hff2
          rw [en'] at j5 j6
          have j9 := (cfN_cong hcg).trans j6
          have j10 : tf_13 = nI (3 + 3 * nj) := by rw [htf14 hf15, j9]; rfl
          refine v_ws0 [oC a tr 0, aS a cS, oK a si ju ca la sw sk rd, ia (a 20) cI 5 kd, ia (a 21) cI 5 ag, ia (a 22) cI 5 de, ia (a 23) cI 5 ta, ia (a 24) cI 5 we, oX a (nI (3 + 3 * nj + 4 * nc)) (nI (3 + 3 * nj)), ia (a 6) cI 60 (va_cpy sc tc iN 0 nN), oS a k hs sl (nI g), ia (a (14 + k)) cI 60 sc] (by rw [j10, ← j5]) ?_
          refine v_aload_n C dX4_court_82 3 rfl ?_
          refine v_get C f_X4_27 dX4_court_83 0 rfl rfl ?_
          refine v_aload_n C dX4_court_86 3 rfl ?_
          refine v_get C f_X4_20 dX4_court_87 0 rfl rfl ?_
          refine v_callMv C l_X4_68 (m_X0_makeAnew a nj nc si ju ca la sw sk rd kd ag de ta we (va_cpy sc tc iN 0 nN) j2 j4) (by decide) dX4_court_90 [2, 3, 4, 5, 6, 7, 8, 9] [0, 1, 10, 11] (wr := [oC a tr 0, aS a cS, oS a k hs sl (nI g), ia (a (14 + k)) cI 60 sc]) (by decide) rfl rfl (by decide) (by decide) 2 rfl rfl rfl (rest := []) rfl (Nat.le_of_ble_eq_true rfl) (by decide) (fun w16 h17 => ?_)
          subst h17
          refine v_ws0 [oC a tr 0, aS a cS, oS a k hs sl (nI g), ia (a (14 + k)) cI 60 sc, oK a (tmF (va_cpy sc tc iN 0 nN)) (nI nj) (nI nc) 0 0 0 0, ia (a 20) cI 5 (tbF (vKd (va_cpy sc tc iN 0 nN)) kd nj), ia (a 21) cI 5 (tbF (vAg (va_cpy sc tc iN 0 nN)) ag nj), ia (a 22) cI 5 (tbF (vCa (va_cpy sc tc iN 0 nN) (3 + 3 * nj) 0) de nc), ia (a 23) cI 5 (tbF (vCa (va_cpy sc tc iN 0 nN) (3 + 3 * nj) 1) ta nc), ia (a 24) cI 5 (tbF (vCa (va_cpy sc tc iN 0 nN) (3 + 3 * nj) 2) we nc), oX a (nI (3 + 3 * nj + 4 * nc)) (nI (3 + 3 * nj)), ia (a 6) cI 60 (va_cpy sc tc iN 0 nN)] rfl ?_
          refine v_aload_n C dX4_court_93 3 rfl ?_
          refine v_get C f_X4_27 dX4_court_94 0 rfl rfl ?_
          refine v_get C f_X4_72 dX4_court_97 4 rfl rfl ?_
          refine v_perm (ws' := [oC a tr 0, aS a cS, oS a k hs sl (nI g), ia (a (14 + k)) cI 60 sc, oX a (nI (3 + 3 * nj + 4 * nc)) (nI (3 + 3 * nj)), ia (a 6) cI 60 (va_cpy sc tc iN 0 nN), oK a (tmF (va_cpy sc tc iN 0 nN)) (nI nj) (nI nc) 0 0 0 0, ia (a 20) cI 5 (tbF (vKd (va_cpy sc tc iN 0 nN)) kd nj), ia (a 21) cI 5 (tbF (vAg (va_cpy sc tc iN 0 nN)) ag nj), ia (a 22) cI 5 (tbF (vCa (va_cpy sc tc iN 0 nN) (3 + 3 * nj) 0) de nc), ia (a 23) cI 5 (tbF (vCa (va_cpy sc tc iN 0 nN) (3 + 3 * nj) 1) ta nc), ia (a 24) cI 5 (tbF (vCa (va_cpy sc tc iN 0 nN) (3 + 3 * nj) 2) we nc)]) [0, 1, 2, 3, 10, 11, 4, 5, 6, 7, 8, 9] (by decide) rfl ?_
          exact v_reti C hA dX4_court_100 rfl (Or.inr (Or.inr ⟨⟨c3, c6, c9⟩, nj, nc, _, _, _, ⟨hff2, by rw [en']; exact j6, j1, j2, j3, j4, by rw [en']; exact j5, j7, j8⟩, rfl, by rw [tm_cong hcg (by omega), tbF_cong (v := vKd _) (fun j hj => kd_cong hcg (by omega)), tbF_cong (v := vAg _) (fun j hj => ag_cong hcg (by omega)), tbF_cong (v := vCa _ _ 0) (fun c hc => ca_cong hcg (by omega)), tbF_cong (v := vCa _ _ 1) (fun c hc => ca_cong hcg (by omega)), tbF_cong (v := vCa _ _ 2) (fun c hc => ca_cong hcg (by omega))]⟩))
        | some p =>
          refine v_st0 [.int (nI p)] rfl ?_
          refine v_istore C [(7, .int (nI p)), (6, .int (focF hs sl (nI g) x i n)), (5, .ref (a (10 + k))), (0, .ref (a 0)), (1, .int q), (2, .int x), (3, .int (nI iN)), (4, .int (nI nN))] dX4_court_67 (by decide) rfl ?_
          refine v_iload C dX4_court_69 0 rfl ?_
          refine v_bipush C (-9) dX4_court_71 (by decide) ?_
          refine v_icmp_eq C 82 dX4_court_73 (by decide) (fun c19 => ?_) (fun c19 => ?_)
          · exact absurd c19 (nI_ne9 (by have := ffF_le hf15; omega))
          · refine v_bipush C (-100) dX4_court_76 (by decide) ?_
            refine v_iload C dX4_court_78 0 rfl ?_
            refine v_isub C dX4_court_80 ?_
            refine v_perm (ws' := [oC a tr 0, aS a cS, oS a k hs sl (nI g), ia (a (14 + k)) cI 60 sc, oX a (nI nN) tf_13, ia (a 6) cI 60 (va_cpy sc tc iN 0 nN), oK a si ju ca la sw sk rd, ia (a 20) cI 5 kd, ia (a 21) cI 5 ag, ia (a 22) cI 5 de, ia (a 23) cI 5 ta, ia (a 24) cI 5 we]) [0, 1, 10, 11, 8, 9, 2, 3, 4, 5, 6, 7] (by decide) rfl ?_
            exact v_reti C hA dX4_court_81 rfl (Or.inr (Or.inl ⟨⟨c3, c6, c9⟩, p, _, _, _, by rw [en', ← hf15]; exact (ffF_cong hcg).symm, rfl, rfl⟩))
      · refine v_aload_n C dX4_court_48 2 rfl ?_
        refine v_iload C dX4_court_49 0 rfl ?_
        refine v_callMi C l_X4_60 (m_X4_faulty a tr 0 (focF hs sl (nI g) x i n)) (by decide) dX4_court_51 [0] [1, 2, 3, 4, 5, 6, 7, 8, 9, 10, 11] (wr := [aS a cS, oS a k hs sl (nI g), ia (a (14 + k)) cI 60 sc, oX a tl tf, ia (a 6) cI 60 tc, oK a si ju ca la sw sk rd, ia (a 20) cI 5 kd, ia (a 21) cI 5 ag, ia (a 22) cI 5 de, ia (a 23) cI 5 ta, ia (a 24) cI 5 we]) (by decide) rfl rfl (by decide) (by decide) 0 rfl rfl rfl (rest := []) rfl (Nat.le_of_ble_eq_true rfl) (by decide) (fun r22 w20 h21 => ?_)
        obtain ⟨rfl, rfl⟩ := h21
        refine v_ws0 [aS a cS, oS a k hs sl (nI g), ia (a (14 + k)) cI 60 sc, oX a tl tf, ia (a 6) cI 60 tc, oK a si ju ca la sw sk rd, ia (a 20) cI 5 kd, ia (a 21) cI 5 ag, ia (a 22) cI 5 de, ia (a 23) cI 5 ta, ia (a 24) cI 5 we, oC a tr (focF hs sl (nI g) x i n)] rfl ?_
        refine v_perm (ws' := [oC a tr (focF hs sl (nI g) x i n), aS a cS, oS a k hs sl (nI g), ia (a (14 + k)) cI 60 sc, oX a tl tf, ia (a 6) cI 60 tc, oK a si ju ca la sw sk rd, ia (a 20) cI 5 kd, ia (a 21) cI 5 ag, ia (a 22) cI 5 de, ia (a 23) cI 5 ta, ia (a 24) cI 5 we]) [11, 0, 1, 2, 3, 4, 5, 6, 7, 8, 9, 10] (by decide) rfl ?_
        exact v_reti C hA dX4_court_54 rfl (Or.inl ⟨by simp [vS, vL, c3, c6, c9], by simp [coF, vS, vL, c3, c6, c9], by simp [coT, vS, vL, c3, c6, c9]⟩)
    · refine v_eqi 0 (bI_f c6) ?_
      refine v_if_ne C 24 dX4_court_18 (by decide) (fun h => absurd h (by decide)) (fun _ => ?_)
      refine v_bipush C (-2) dX4_court_21 (by decide) ?_
      exact v_reti C hA dX4_court_23 rfl (Or.inl ⟨by simp [vS, vL, c3, c6], by simp [coF, vS, vL, c3, c6], by simp [coT, vS, vL, c3, c6]⟩)
  · refine v_eqi 0 (bI_f c3) ?_
    refine v_if_ne C 14 dX4_court_9 (by decide) (fun h => absurd h (by decide)) (fun _ => ?_)
    refine v_iconst C (-1) dX4_court_12 (by decide) ?_
    exact v_reti C hA dX4_court_13 rfl (Or.inl ⟨by simp [vS, vL, c3], by simp [coF, vS, vL, c3], by simp [coT, vS, vL, c3]⟩)
