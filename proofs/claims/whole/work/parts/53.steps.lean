def Sh (k : Nat) (hs sl : Int32) (g : Nat) (sc so sn ce : Nat → Int32) : Prop := g ≤ 60 ∧ so k = soF hs sl ∧ sn k = nI g ∧ (¬ hs = 0 → ¬ sl = -9) ∧ ∀ i, i < 60 → ce (60 * k + i) = sc i
def GB (nj nc wl s0 st nr : Nat) : Prop := nj ≤ 5 ∧ nc ≤ 5 ∧ wl < 64 ∧ s0 < 2 ^ nj ∧ st < 2 ^ nj ∧ 2 ^ nj ≤ 32 ∧ nr ≤ 8
theorem up_id {α : Type} (f : Nat → α) (k : Nat) : va_up f k (f k) = f := by
  funext j
  by_cases e : j = k
  · subst e; exact va_up_self f j _
  · exact va_up_ne f _ e
theorem kOf (q : Int32) : ∃ k, k < 4 ∧ (vS q → q = nI k) := by
  by_cases h : vS q
  · have h' := h
    simp only [vS, vSb, Bool.and_eq_true, Bool.not_eq_true', decide_eq_false_iff_not] at h'
    obtain ⟨j, hj, rfl⟩ := nI_of h'.1
    exact ⟨j, nI_ltD h'.2 hj, fun _ => rfl⟩
  · exact ⟨0, by decide, fun h' => absurd h' h⟩
theorem in_nat {j : Int32} {n : Nat} (hn : n < 2 ^ 31) (h : ¬ j < 0 ∧ ¬ nI n ≤ j) : zN j < n ∧ j = nI (zN j) := by
  obtain ⟨h1, h2⟩ := h
  obtain ⟨x, hx, rfl⟩ := nI_of h1
  have e : zN (nI x) = x := nI_clamp hx
  rw [e]
  exact ⟨nI_ltD h2 hx, rfl⟩
theorem ck_lt {nc wl : Nat} {x : Int32} (h : wl < 64) : ckW nc wl x < 64 := by
  unfold ckW
  by_cases c : ¬ x < 0 ∧ x < 64 ∧ ¬ nI nc ≤ 0
  · rw [if_pos c]
    obtain ⟨j, hj, rfl⟩ := nI_of c.1
    have e : zN (nI j) = j := nI_clamp hj
    rw [e]
    exact nI_ltP (b := 64) c.2.1 hj
  · rw [if_neg c]; exact h
theorem pw64 {nj m : Nat} (hnj : nj ≤ 5) (h : m < 2 ^ nj) : m < 64 := Nat.lt_of_lt_of_le h (Nat.le_trans (pow5 hnj) (by decide))
theorem bA_clr {f : Nat → Int32} {st i nj : Nat} (hf : ∀ j, j < nj → f j = bA st j) (hnj : nj ≤ 5) (hst : st < 64) (hi : i < nj) : ∀ j, j < nj → upd f i 0 j = bA (clr st i) j := by
  intro j hj
  unfold bA
  rw [clr_bit st hst i (by omega) j (by omega)]
  by_cases e : j = i
  · subst e; rw [upd_at]; simp
  · rw [upd_ne e, hf j hj]; unfold bA; simp [e]
theorem tr_1 {nj m : Nat} {f : Nat → Int32} {j : Int32} (hnj : nj ≤ 5) (hm : m < 2 ^ nj) (hf : ∀ j, j < nj → f j = bA m j) : trW nj m j 1 < 2 ^ nj ∧ ∀ i, i < nj → (if ¬ j < 0 ∧ ¬ nI nj ≤ j then upd f (zN j) 1 else f) i = bA (trW nj m j 1) i := by
  unfold trW
  by_cases c : ¬ j < 0 ∧ ¬ nI nj ≤ j
  · rw [if_pos c, if_pos c]
    have hz := (in_nat (by omega) c).1
    have e : wbN m (zN j) 1 = set1 m (zN j) := by unfold wbN; rw [if_neg (by decide)]
    rw [e]
    exact ⟨set1_lt nj (by omega) m hm _ hz, bA_set hf hnj (pw64 hnj hm) hz⟩
  · rw [if_neg c, if_neg c]; exact ⟨hm, hf⟩
theorem tr_0 {nj m : Nat} {f : Nat → Int32} {j : Int32} (hnj : nj ≤ 5) (hm : m < 2 ^ nj) (hf : ∀ j, j < nj → f j = bA m j) : trW nj m j 0 < 2 ^ nj ∧ ∀ i, i < nj → (if ¬ j < 0 ∧ ¬ nI nj ≤ j then upd f (zN j) 0 else f) i = bA (trW nj m j 0) i := by
  unfold trW
  by_cases c : ¬ j < 0 ∧ ¬ nI nj ≤ j
  · rw [if_pos c, if_pos c]
    have hz := (in_nat (by omega) c).1
    have e : wbN m (zN j) 0 = clr m (zN j) := by unfold wbN; rw [if_pos rfl]
    rw [e]
    exact ⟨clr_lt _ hm, bA_clr hf hnj (pw64 hnj hm) hz⟩
  · rw [if_neg c, if_neg c]; exact ⟨hm, hf⟩
theorem rd_ok {nc nr : Nat} {rC : Nat → Int32} {rn : Nat → Nat} {c h : Int32} (hnc : nc ≤ 5) (hnr : nr ≤ 8) (hrc : ∀ q, q < nr → rC q = nI (rn q) ∧ rn q < nc) : rdN nc nr c h ≤ 8 ∧ ∃ rn' : Nat → Nat, ∀ q, q < rdN nc nr c h → rdC nc nr rC c h c q = nI (rn' q) ∧ rn' q < nc := by
  unfold rdN rdC
  by_cases e : (¬ c < 0 ∧ ¬ nI nc ≤ c) ∧ (¬ h < 0 ∧ h ≤ 2) ∧ nr < 8
  · rw [if_pos e, if_pos e]
    have hz := in_nat (by omega) e.1
    refine ⟨e.2.2, va_up rn nr (zN c), fun q hq => ?_⟩
    by_cases e2 : q = nr
    · subst e2
      rw [upd_at, va_up_self]
      exact ⟨hz.2, hz.1⟩
    · rw [upd_ne e2, va_up_ne _ _ e2]
      exact hrc q (by omega)
  · rw [if_neg e, if_neg e]
    exact ⟨hnr, rn, hrc⟩
theorem bk_le {nr : Nat} {k : Int32} : bkN nr k ≤ nr := by
  unfold bkN
  split <;> omega
theorem vL_9 {x : Int32} (h : vL x) : ¬ x = -9 := by
  intro e
  subst e
  exact absurd h (by decide)
section Sheets
variable {hs sl : Nat → Int32} {g : Nat → Nat} {sc : Nat → Nat → Int32} {so sn ce : Nat → Int32}
theorem sh_sheet (h : ∀ k, k < 4 → Sh k (hs k) (sl k) (g k) (sc k) so sn ce) {k : Nat} {q x n : Int32} (k' : Nat) (hk' : k' < 4) : Sh k' (va_up hs k (if shOk q x n then 1 else hs k) k') (va_up sl k (if shOk q x n then x else sl k) k') (va_up g k (if shOk q x n then zN n else g k) k') (va_up sc k (if shOk q x n then (fun _ => 0) else sc k) k') (if shOk q x n then upd so k x else so) (if shOk q x n then upd sn k n else sn) (if shOk q x n then fil k ce 60 else ce) := by
  by_cases ho : shOk q x n
  · rw [if_pos ho, if_pos ho, if_pos ho, if_pos ho, if_pos ho, if_pos ho, if_pos ho]
    by_cases e : k' = k
    · subst e
      rw [va_up_self, va_up_self, va_up_self, va_up_self]
      obtain ⟨nN, hn, rfl⟩ := nI_of (x := n) (Int32.not_lt.mpr ho.2.2.2)
      have e2 : zN (nI nN) = nN := nI_clamp hn
      rw [e2]
      refine ⟨nI_leD (a := 60) ho.2.2.1 hn, ?_, upd_at, fun _ => vL_9 ho.2.1, fun i hi => ?_⟩
      · rw [upd_at]; unfold soF; rw [if_neg (by decide)]
      · unfold fil; rw [if_pos (by omega)]
    · rw [va_up_ne _ _ e, va_up_ne _ _ e, va_up_ne _ _ e, va_up_ne _ _ e]
      obtain ⟨a1, a2, a3, a4, a5⟩ := h k' hk'
      refine ⟨a1, by rw [upd_ne e]; exact a2, by rw [upd_ne e]; exact a3, a4, fun i hi => ?_⟩
      unfold fil
      rw [if_neg (by omega)]
      exact a5 i hi
  · rw [if_neg ho, if_neg ho, if_neg ho, if_neg ho, if_neg ho, if_neg ho, if_neg ho, up_id, up_id, up_id, up_id]
    exact h k' hk'
theorem sh_lose (h : ∀ k, k < 4 → Sh k (hs k) (sl k) (g k) (sc k) so sn ce) {k : Nat} {q : Int32} (k' : Nat) (hk' : k' < 4) : Sh k' (va_up hs k (if vS q then 0 else hs k) k') (sl k') (g k') (sc k') (if vS q then upd so k (-9) else so) sn ce := by
  by_cases ho : vS q
  · rw [if_pos ho, if_pos ho]
    obtain ⟨a1, a2, a3, a4, a5⟩ := h k' hk'
    by_cases e : k' = k
    · subst e
      rw [va_up_self]
      refine ⟨a1, ?_, a3, fun q => absurd rfl q, a5⟩
      rw [upd_at]; unfold soF; rw [if_pos rfl]
    · rw [va_up_ne _ _ e]
      exact ⟨a1, by rw [upd_ne e]; exact a2, a3, a4, a5⟩
  · rw [if_neg ho, if_neg ho, up_id]
    exact h k' hk'
theorem sh_put (h : ∀ k, k < 4 → Sh k (hs k) (sl k) (g k) (sc k) so sn ce) {k : Nat} (hk : k < 4) {q i v : Int32} (k' : Nat) (hk' : k' < 4) : Sh k' (hs k') (sl k') (g k') (va_up sc k (if puOk q (hs k) (g k) i then upd (sc k) (zN i) (cutF (sl k) v) else sc k) k') so sn (if puOk q (hs k) (g k) i then upd ce (60 * k + zN i) (cutF (sl k) v) else ce) := by
  by_cases ho : puOk q (hs k) (g k) i
  · rw [if_pos ho, if_pos ho]
    have hg := (h k hk).1
    have hz := (in_nat (n := g k) (by omega) ho.2.2).1
    obtain ⟨a1, a2, a3, a4, a5⟩ := h k' hk'
    by_cases e : k' = k
    · subst e
      rw [va_up_self]
      refine ⟨a1, a2, a3, a4, fun p hp => ?_⟩
      by_cases e2 : p = zN i
      · subst e2; rw [upd_at, upd_at]
      · rw [upd_ne e2, upd_ne (by omega)]; exact a5 p hp
    · rw [va_up_ne _ _ e]
      refine ⟨a1, a2, a3, a4, fun p hp => ?_⟩
      rw [upd_ne (by omega)]; exact a5 p hp
  · rw [if_neg ho, if_neg ho, up_id]
    exact h k' hk'
theorem sh_copy (h : ∀ k, k < 4 → Sh k (hs k) (sl k) (g k) (sc k) so sn ce) {k k2 : Nat} (hk : k < 4) (hk2 : k2 < 4) {q q2 i j n : Int32} (k' : Nat) (hk' : k' < 4) : Sh k' (hs k') (sl k') (g k') (va_up sc k2 (if cyOk q q2 (hs k) (hs k2) (sl k) (sl k2) (g k) (g k2) i j n then va_cpy (sc k) (sc k2) (zN i) (zN j) (zN n) else sc k2) k') so sn (if cyOk q q2 (hs k) (hs k2) (sl k) (sl k2) (g k) (g k2) i j n then va_cpy ce ce (60 * k + zN i) (60 * k2 + zN j) (zN n) else ce) := by
  by_cases ho : cyOk q q2 (hs k) (hs k2) (sl k) (sl k2) (g k) (g k2) i j n
  · rw [if_pos ho, if_pos ho]
    have hg := (h k hk).1
    have hg2 := (h k2 hk2).1
    obtain ⟨i1, n1, -, -, b1, e1, e2⟩ := hc_nat hg ho.2.2.2.2.2.1
    obtain ⟨j1, n2, -, -, b2, e3, e4⟩ := hc_nat hg2 ho.2.2.2.2.2.2
    rw [e1, e3, e2]
    have en : n2 = n1 := e4.symm.trans e2
    subst en
    obtain ⟨a1, a2, a3, a4, a5⟩ := h k' hk'
    by_cases e : k' = k2
    · subst e
      rw [va_up_self]
      refine ⟨a1, a2, a3, a4, fun p hp => ?_⟩
      unfold va_cpy
      by_cases c : j1 ≤ p ∧ p < j1 + n2
      · rw [if_pos c, if_pos (by omega), show 60 * k + i1 + (60 * k' + p - (60 * k' + j1)) = 60 * k + (i1 + (p - j1)) by omega]
        exact (h k hk).2.2.2.2 _ (by omega)
      · rw [if_neg c, if_neg (by omega)]; exact a5 p hp
    · rw [va_up_ne _ _ e]
      refine ⟨a1, a2, a3, a4, fun p hp => ?_⟩
      unfold va_cpy
      rw [if_neg (by omega)]; exact a5 p hp
  · rw [if_neg ho, if_neg ho, up_id]
    exact h k' hk'
end Sheets
theorem tx_same {f : Nat → Int32} {n nj nc nj2 nc2 : Nat} (h : Tx f n nj nc) (h2 : Tx f n nj2 nc2) : nj = nj2 ∧ nc = nc2 := by
  obtain ⟨-, a1, -, -, -, -, a2, -⟩ := h
  obtain ⟨-, b1, -, -, -, -, b2, -⟩ := h2
  have e := Option.some.inj (a1.symm.trans b1)
  omega
theorem tx_de {f de : Nat → Int32} {n nj nc : Nat} (h : Tx f n nj nc) : ∃ dn : Nat → Nat, ∀ c, c < nc → tbF (vCa f (3 + 3 * nj) 0) de nc c = nI (dn c) ∧ dn c < 6 := by
  obtain ⟨-, -, -, -, -, -, -, h1, -⟩ := h
  refine ⟨fun c => zN (f (3 + 3 * nj + 4 * c + 1) - 48), fun c hc => ?_⟩
  obtain ⟨d, hd, e⟩ := h1 c hc
  have e2 : zN (f (3 + 3 * nj + 4 * c + 1) - 48) = d := by rw [e]; exact nI_clamp (by omega)
  show tbF (vCa f (3 + 3 * nj) 0) de nc c = nI (zN (f (3 + 3 * nj + 4 * c + 1) - 48)) ∧ zN (f (3 + 3 * nj + 4 * c + 1) - 48) < 6
  rw [e2]
  unfold tbF vCa
  rw [if_pos hc]
  exact ⟨e, hd⟩
theorem tx_we {f we : Nat → Int32} {n nj nc : Nat} (h : Tx f n nj nc) : ∀ c, c < nc → 0 ≤ (tbF (vCa f (3 + 3 * nj) 2) we nc c).toInt ∧ (tbF (vCa f (3 + 3 * nj) 2) we nc c).toInt ≤ 9 := by
  obtain ⟨-, -, -, -, -, -, -, -, h1⟩ := h
  intro c hc
  obtain ⟨d, hd, e⟩ := h1 c hc
  have e2 : tbF (vCa f (3 + 3 * nj) 2) we nc c = nI d := by
    unfold tbF vCa
    rw [if_pos hc]
    exact e
  rw [e2, nI_toInt (by omega)]
  omega
theorem fl_bA {f : Nat → Int32} {nj : Nat} : ∀ j, j < nj → flF 0 f nj j = bA 0 j := by
  intro j hj
  unfold bA
  rw [Nat.zero_testBit]
  simp [flF, hj]
