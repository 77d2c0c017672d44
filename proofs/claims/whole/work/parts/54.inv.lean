def INV (a b : Nat → Nat) (cI cB cS : ClassId) (wc wm : va_W) : Prop := ∃ (tr fa : Int32) (hs sl : Nat → Int32) (g : Nat → Nat) (sc : Nat → Nat → Int32) (si : Int32) (nj nc wl s0 st nr : Nat) (kd ag de ta we rC rH so sn ce hS iS : Nat → Int32) (dn rn : Nat → Nat), CW a cI cS tr fa hs sl g sc si nj nc wl s0 st nr kd ag de ta we rC rH wc ∧ MW b cI cB tr fa si nj nc wl nr kd ag de ta we rC rH so sn ce hS iS wm ∧ GB nj nc wl s0 st nr ∧ ((∀ j, j < nj → hS j = bA s0 j) ∧ (∀ j, j < nj → iS j = bA st j) ∧ (∀ c, c < nc → de c = nI (dn c) ∧ dn c < 6) ∧ (∀ c, c < nc → 0 ≤ (we c).toInt ∧ (we c).toInt ≤ 9) ∧ (∀ q, q < nr → rC q = nI (rn q) ∧ rn q < nc)) ∧ ∀ k, k < 4 → Sh k (hs k) (sl k) (g k) (sc k) so sn ce
set_option maxHeartbeats 4000000 in
theorem inv_ofJuror {l : Launch} {D : va_G} {a b : Nat → Nat} {cI cB cS : ClassId} {wc wm : va_W} (hI : INV a b cI cB cS wc wm) (j : Int32) (x : Int32) : ∃ P1 P2 : Int32 → va_W → Prop, Mi l yX4_ofJuror cX4_ofJuror 3 (some .int) 1 21 D cI cB cS [.ref (a 0), .int j, .int x] wc P1 ∧ Mi l yX5_ofJuror cX5_ofJuror 3 (some .int) 1 21 D cI cB cS [.ref (b 0), .int j, .int x] wm P2 ∧ ∀ r1 w1 r2 w2, P1 r1 w1 → P2 r2 w2 → r1 = r2 ∧ INV a b cI cB cS w1 w2 := by
  obtain ⟨tr, fa, hs, sl, g, sc, si, nj, nc, wl, s0, st, nr, kd, ag, de, ta, we, rC, rH, so, sn, ce, hS, iS, dn, rn, hC, hM, hG, ⟨hhS, hiS, hde, hwe, hrc⟩, hSh⟩ := hI
  have hG' := hG
  obtain ⟨hnj, hnc, hwl, hs0, hst2, hp5, hnr⟩ := hG'
  refine ⟨_, _, (c_X4_ofJuror hC j x hnj hnc hwl hs0 hst2 hp5 hnr), (n_X5_ofJuror hM s0 st j x hnj hnc hwl hs0 hst2 hp5 hnr hhS hiS), ?_⟩
  intro r1 w1 r2 w2 h1 h2
  obtain ⟨rfl, h1⟩ := h1
  obtain ⟨rfl, h2⟩ := h2
  exact ⟨rfl, _, _, _, _, _, _, _, _, _, _, _, _, _, _, _, _, _, _, _, _, _, _, _, _, _, dn, rn, h1, h2, hG, ⟨hhS, hiS, hde, hwe, hrc⟩, hSh⟩
set_option maxHeartbeats 4000000 in
theorem inv_ofCase {l : Launch} {D : va_G} {a b : Nat → Nat} {cI cB cS : ClassId} {wc wm : va_W} (hI : INV a b cI cB cS wc wm) (c : Int32) (x : Int32) : ∃ P1 P2 : Int32 → va_W → Prop, Mi l yX4_ofCase cX4_ofCase 3 (some .int) 1 21 D cI cB cS [.ref (a 0), .int c, .int x] wc P1 ∧ Mi l yX5_ofCase cX5_ofCase 3 (some .int) 1 21 D cI cB cS [.ref (b 0), .int c, .int x] wm P2 ∧ ∀ r1 w1 r2 w2, P1 r1 w1 → P2 r2 w2 → r1 = r2 ∧ INV a b cI cB cS w1 w2 := by
  obtain ⟨tr, fa, hs, sl, g, sc, si, nj, nc, wl, s0, st, nr, kd, ag, de, ta, we, rC, rH, so, sn, ce, hS, iS, dn, rn, hC, hM, hG, ⟨hhS, hiS, hde, hwe, hrc⟩, hSh⟩ := hI
  have hG' := hG
  obtain ⟨hnj, hnc, hwl, hs0, hst2, hp5, hnr⟩ := hG'
  refine ⟨_, _, (c_X4_ofCase hC c x hnj hnc hwl hs0 hst2 hp5 hnr), (n_X5_ofCase hM s0 st c x hnj hnc hwl hs0 hst2 hp5 hnr), ?_⟩
  intro r1 w1 r2 w2 h1 h2
  obtain ⟨rfl, h1⟩ := h1
  obtain ⟨rfl, h2⟩ := h2
  exact ⟨rfl, _, _, _, _, _, _, _, _, _, _, _, _, _, _, _, _, _, _, _, _, _, _, _, _, _, dn, rn, h1, h2, hG, ⟨hhS, hiS, hde, hwe, hrc⟩, hSh⟩
set_option maxHeartbeats 4000000 in
theorem inv_minutes {l : Launch} {D : va_G} {a b : Nat → Nat} {cI cB cS : ClassId} {wc wm : va_W} (hI : INV a b cI cB cS wc wm) (v : Int32) : ∃ P1 P2 : Int32 → va_W → Prop, Mi l yX4_minutes cX4_minutes 3 (some .int) 1 20 D cI cB cS [.ref (a 0), .int v] wc P1 ∧ Mi l yX5_minutes cX5_minutes 3 (some .int) 1 22 D cI cB cS [.ref (b 0), .int v] wm P2 ∧ ∀ r1 w1 r2 w2, P1 r1 w1 → P2 r2 w2 → r1 = r2 ∧ INV a b cI cB cS w1 w2 := by
  obtain ⟨tr, fa, hs, sl, g, sc, si, nj, nc, wl, s0, st, nr, kd, ag, de, ta, we, rC, rH, so, sn, ce, hS, iS, dn, rn, hC, hM, hG, ⟨hhS, hiS, hde, hwe, hrc⟩, hSh⟩ := hI
  have hG' := hG
  obtain ⟨hnj, hnc, hwl, hs0, hst2, hp5, hnr⟩ := hG'
  refine ⟨_, _, (c_X4_minutes hC v hnj hnc hwl hs0 hst2 hp5 hnr), (n_X5_minutes hM s0 st v hnj hnc hwl hs0 hst2 hp5 hnr), ?_⟩
  intro r1 w1 r2 w2 h1 h2
  obtain ⟨rfl, h1⟩ := h1
  obtain ⟨rfl, h2⟩ := h2
  exact ⟨rfl, _, _, _, _, _, _, _, _, _, _, _, _, _, _, _, _, _, _, _, _, _, _, _, _, _, dn, rn, h1, h2, hG, ⟨hhS, hiS, hde, hwe, hrc⟩, hSh⟩
set_option maxHeartbeats 4000000 in
theorem inv_votes {l : Launch} {D : va_G} {a b : Nat → Nat} {cI cB cS : ClassId} {wc wm : va_W} (hI : INV a b cI cB cS wc wm) (c : Int32) (mi : Int32) : ∃ P1 P2 : Int32 → va_W → Prop, Mi l yX4_votes cX4_votes 3 (some .int) 2 49 D cI cB cS [.ref (a 0), .int c, .int mi] wc P1 ∧ Mi l yX5_votes cX5_votes 5 (some .int) 2 45 D cI cB cS [.ref (b 0), .int c, .int mi] wm P2 ∧ ∀ r1 w1 r2 w2, P1 r1 w1 → P2 r2 w2 → r1 = r2 ∧ INV a b cI cB cS w1 w2 := by
  obtain ⟨tr, fa, hs, sl, g, sc, si, nj, nc, wl, s0, st, nr, kd, ag, de, ta, we, rC, rH, so, sn, ce, hS, iS, dn, rn, hC, hM, hG, ⟨hhS, hiS, hde, hwe, hrc⟩, hSh⟩ := hI
  have hG' := hG
  obtain ⟨hnj, hnc, hwl, hs0, hst2, hp5, hnr⟩ := hG'
  refine ⟨_, _, (c_X4_votes hC dn c mi hnj hnc hwl hs0 hst2 hp5 hnr hde), (n_X5_votes hM s0 st dn c mi hnj hnc hwl hs0 hst2 hp5 hnr hhS hiS hde), ?_⟩
  intro r1 w1 r2 w2 h1 h2
  obtain ⟨rfl, h1⟩ := h1
  obtain ⟨rfl, h2⟩ := h2
  exact ⟨rfl, _, _, _, _, _, _, _, _, _, _, _, _, _, _, _, _, _, _, _, _, _, _, _, _, _, dn, rn, h1, h2, hG, ⟨hhS, hiS, hde, hwe, hrc⟩, hSh⟩
set_option maxHeartbeats 4000000 in
theorem inv_most {l : Launch} {D : va_G} {a b : Nat → Nat} {cI cB cS : ClassId} {wc wm : va_W} (hI : INV a b cI cB cS wc wm) (k_ : Int32) : ∃ P1 P2 : Int32 → va_W → Prop, Mi l yX4_most cX4_most 2 (some .int) 6 145 D cI cB cS [.ref (a 0), .int k_] wc P1 ∧ Mi l yX5_most cX5_most 2 (some .int) 7 162 D cI cB cS [.ref (b 0), .int k_] wm P2 ∧ ∀ r1 w1 r2 w2, P1 r1 w1 → P2 r2 w2 → r1 = r2 ∧ INV a b cI cB cS w1 w2 := by
  obtain ⟨tr, fa, hs, sl, g, sc, si, nj, nc, wl, s0, st, nr, kd, ag, de, ta, we, rC, rH, so, sn, ce, hS, iS, dn, rn, hC, hM, hG, ⟨hhS, hiS, hde, hwe, hrc⟩, hSh⟩ := hI
  have hG' := hG
  obtain ⟨hnj, hnc, hwl, hs0, hst2, hp5, hnr⟩ := hG'
  refine ⟨_, _, (c_X4_most hC dn k_ hnj hnc hwl hs0 hst2 hp5 hnr hde hwe), (n_X5_most hM s0 st dn k_ hnj hnc hwl hs0 hst2 hp5 hnr hhS hiS hde hwe), ?_⟩
  intro r1 w1 r2 w2 h1 h2
  obtain ⟨rfl, h1⟩ := h1
  obtain ⟨rfl, h2⟩ := h2
  exact ⟨rfl, _, _, _, _, _, _, _, _, _, _, _, _, _, _, _, _, _, _, _, _, _, _, _, _, _, dn, rn, h1, h2, hG, ⟨hhS, hiS, hde, hwe, hrc⟩, hSh⟩
set_option maxHeartbeats 4000000 in
theorem inv_delay {l : Launch} {D : va_G} {a b : Nat → Nat} {cI cB cS : ClassId} {wc wm : va_W} (hI : INV a b cI cB cS wc wm) (k_ : Int32) : ∃ P1 P2 : Int32 → va_W → Prop, Mi l yX4_delay cX4_delay 2 (some .int) 6 145 D cI cB cS [.ref (a 0), .int k_] wc P1 ∧ Mi l yX5_delay cX5_delay 2 (some .int) 7 162 D cI cB cS [.ref (b 0), .int k_] wm P2 ∧ ∀ r1 w1 r2 w2, P1 r1 w1 → P2 r2 w2 → r1 = r2 ∧ INV a b cI cB cS w1 w2 := by
  obtain ⟨tr, fa, hs, sl, g, sc, si, nj, nc, wl, s0, st, nr, kd, ag, de, ta, we, rC, rH, so, sn, ce, hS, iS, dn, rn, hC, hM, hG, ⟨hhS, hiS, hde, hwe, hrc⟩, hSh⟩ := hI
  have hG' := hG
  obtain ⟨hnj, hnc, hwl, hs0, hst2, hp5, hnr⟩ := hG'
  refine ⟨_, _, (c_X4_delay hC dn k_ hnj hnc hwl hs0 hst2 hp5 hnr hde hwe), (n_X5_delay hM s0 st dn k_ hnj hnc hwl hs0 hst2 hp5 hnr hhS hiS hde hwe), ?_⟩
  intro r1 w1 r2 w2 h1 h2
  obtain ⟨rfl, h1⟩ := h1
  obtain ⟨rfl, h2⟩ := h2
  exact ⟨rfl, _, _, _, _, _, _, _, _, _, _, _, _, _, _, _, _, _, _, _, _, _, _, _, _, _, dn, rn, h1, h2, hG, ⟨hhS, hiS, hde, hwe, hrc⟩, hSh⟩
set_option maxHeartbeats 4000000 in
theorem inv_strikes {l : Launch} {D : va_G} {a b : Nat → Nat} {cI cB cS : ClassId} {wc wm : va_W} (hI : INV a b cI cB cS wc wm) (x : Int32) : ∃ P1 P2 : Int32 → va_W → Prop, Mi l yX4_strikes cX4_strikes 6 (some .int) 6 142 D cI cB cS [.ref (a 0), .int x] wc P1 ∧ Mi l yX5_strikes cX5_strikes 6 (some .int) 7 156 D cI cB cS [.ref (b 0), .int x] wm P2 ∧ ∀ r1 w1 r2 w2, P1 r1 w1 → P2 r2 w2 → r1 = r2 ∧ INV a b cI cB cS w1 w2 := by
  obtain ⟨tr, fa, hs, sl, g, sc, si, nj, nc, wl, s0, st, nr, kd, ag, de, ta, we, rC, rH, so, sn, ce, hS, iS, dn, rn, hC, hM, hG, ⟨hhS, hiS, hde, hwe, hrc⟩, hSh⟩ := hI
  have hG' := hG
  obtain ⟨hnj, hnc, hwl, hs0, hst2, hp5, hnr⟩ := hG'
  refine ⟨_, _, (c_X4_strikes hC dn x hnj hnc hwl hs0 hst2 hp5 hnr hde), (n_X5_strikes hM s0 st dn x hnj hnc hwl hs0 hst2 hp5 hnr hhS hiS hde), ?_⟩
  intro r1 w1 r2 w2 h1 h2
  obtain ⟨rfl, h1⟩ := h1
  obtain ⟨rfl, h2⟩ := h2
  exact ⟨rfl, _, _, _, _, _, _, _, _, _, _, _, _, _, _, _, _, _, _, _, _, _, _, _, _, _, dn, rn, h1, h2, hG, ⟨hhS, hiS, hde, hwe, hrc⟩, hSh⟩
set_option maxHeartbeats 4000000 in
theorem inv_worth {l : Launch} {D : va_G} {a b : Nat → Nat} {cI cB cS : ClassId} {wc wm : va_W} (hI : INV a b cI cB cS wc wm) (j : Int32) : ∃ P1 P2 : Int32 → va_W → Prop, Mi l yX4_worth cX4_worth 4 (some .int) 5 119 D cI cB cS [.ref (a 0), .int j] wc P1 ∧ Mi l yX5_worth cX5_worth 5 (some .int) 6 133 D cI cB cS [.ref (b 0), .int j] wm P2 ∧ ∀ r1 w1 r2 w2, P1 r1 w1 → P2 r2 w2 → r1 = r2 ∧ INV a b cI cB cS w1 w2 := by
  obtain ⟨tr, fa, hs, sl, g, sc, si, nj, nc, wl, s0, st, nr, kd, ag, de, ta, we, rC, rH, so, sn, ce, hS, iS, dn, rn, hC, hM, hG, ⟨hhS, hiS, hde, hwe, hrc⟩, hSh⟩ := hI
  have hG' := hG
  obtain ⟨hnj, hnc, hwl, hs0, hst2, hp5, hnr⟩ := hG'
  refine ⟨_, _, (c_X4_worth hC dn j hnj hnc hwl hs0 hst2 hp5 hnr hde), (n_X5_worth hM s0 st dn j hnj hnc hwl hs0 hst2 hp5 hnr hhS hiS hde), ?_⟩
  intro r1 w1 r2 w2 h1 h2
  obtain ⟨rfl, h1⟩ := h1
  obtain ⟨rfl, h2⟩ := h2
  exact ⟨rfl, _, _, _, _, _, _, _, _, _, _, _, _, _, _, _, _, _, _, _, _, _, _, _, _, _, dn, rn, h1, h2, hG, ⟨hhS, hiS, hde, hwe, hrc⟩, hSh⟩
set_option maxHeartbeats 4000000 in
theorem inv_codes {l : Launch} {D : va_G} {a b : Nat → Nat} {cI cB cS : ClassId} {wc wm : va_W} (hI : INV a b cI cB cS wc wm) (x : Int32) : ∃ P1 P2 : Int32 → va_W → Prop, Mi l yX4_codes cX4_codes 6 (some .int) 5 119 D cI cB cS [.ref (a 0), .int x] wc P1 ∧ Mi l yX5_codes cX5_codes 7 (some .int) 7 154 D cI cB cS [.ref (b 0), .int x] wm P2 ∧ ∀ r1 w1 r2 w2, P1 r1 w1 → P2 r2 w2 → r1 = r2 ∧ INV a b cI cB cS w1 w2 := by
  obtain ⟨tr, fa, hs, sl, g, sc, si, nj, nc, wl, s0, st, nr, kd, ag, de, ta, we, rC, rH, so, sn, ce, hS, iS, dn, rn, hC, hM, hG, ⟨hhS, hiS, hde, hwe, hrc⟩, hSh⟩ := hI
  have hG' := hG
  obtain ⟨hnj, hnc, hwl, hs0, hst2, hp5, hnr⟩ := hG'
  refine ⟨_, _, (c_X4_codes hC dn rn x hnj hnc hwl hs0 hst2 hp5 hnr hde hrc), (n_X5_codes hM s0 st dn rn x hnj hnc hwl hs0 hst2 hp5 hnr hhS hiS hde hrc), ?_⟩
  intro r1 w1 r2 w2 h1 h2
  obtain ⟨rfl, h1⟩ := h1
  obtain ⟨rfl, h2⟩ := h2
  exact ⟨rfl, _, _, _, _, _, _, _, _, _, _, _, _, _, _, _, _, _, _, _, _, _, _, _, _, _, dn, rn, h1, h2, hG, ⟨hhS, hiS, hde, hwe, hrc⟩, hSh⟩
set_option maxHeartbeats 4000000 in
theorem inv_kinds {l : Launch} {D : va_G} {a b : Nat → Nat} {cI cB cS : ClassId} {wc wm : va_W} (hI : INV a b cI cB cS wc wm) (j : Int32) : ∃ P1 P2 : Int32 → va_W → Prop, Mi l yX4_kinds cX4_kinds 4 (some .int) 5 119 D cI cB cS [.ref (a 0), .int j] wc P1 ∧ Mi l yX5_kinds cX5_kinds 5 (some .int) 7 154 D cI cB cS [.ref (b 0), .int j] wm P2 ∧ ∀ r1 w1 r2 w2, P1 r1 w1 → P2 r2 w2 → r1 = r2 ∧ INV a b cI cB cS w1 w2 := by
  obtain ⟨tr, fa, hs, sl, g, sc, si, nj, nc, wl, s0, st, nr, kd, ag, de, ta, we, rC, rH, so, sn, ce, hS, iS, dn, rn, hC, hM, hG, ⟨hhS, hiS, hde, hwe, hrc⟩, hSh⟩ := hI
  have hG' := hG
  obtain ⟨hnj, hnc, hwl, hs0, hst2, hp5, hnr⟩ := hG'
  refine ⟨_, _, (c_X4_kinds hC dn rn j hnj hnc hwl hs0 hst2 hp5 hnr hde hrc), (n_X5_kinds hM s0 st dn rn j hnj hnc hwl hs0 hst2 hp5 hnr hhS hiS hde hrc), ?_⟩
  intro r1 w1 r2 w2 h1 h2
  obtain ⟨rfl, h1⟩ := h1
  obtain ⟨rfl, h2⟩ := h2
  exact ⟨rfl, _, _, _, _, _, _, _, _, _, _, _, _, _, _, _, _, _, _, _, _, _, _, _, _, _, dn, rn, h1, h2, hG, ⟨hhS, hiS, hde, hwe, hrc⟩, hSh⟩
set_option maxHeartbeats 4000000 in
theorem inv_treated {l : Launch} {D : va_G} {a b : Nat → Nat} {cI cB cS : ClassId} {wc wm : va_W} (hI : INV a b cI cB cS wc wm)  : ∃ P1 P2 : Int32 → va_W → Prop, Mi l yX4_treated cX4_treated 3 (some .int) 5 119 D cI cB cS [.ref (a 0)] wc P1 ∧ Mi l yX5_treated cX5_treated 4 (some .int) 7 154 D cI cB cS [.ref (b 0)] wm P2 ∧ ∀ r1 w1 r2 w2, P1 r1 w1 → P2 r2 w2 → r1 = r2 ∧ INV a b cI cB cS w1 w2 := by
  obtain ⟨tr, fa, hs, sl, g, sc, si, nj, nc, wl, s0, st, nr, kd, ag, de, ta, we, rC, rH, so, sn, ce, hS, iS, dn, rn, hC, hM, hG, ⟨hhS, hiS, hde, hwe, hrc⟩, hSh⟩ := hI
  have hG' := hG
  obtain ⟨hnj, hnc, hwl, hs0, hst2, hp5, hnr⟩ := hG'
  refine ⟨_, _, (c_X4_treated hC dn rn hnj hnc hwl hs0 hst2 hp5 hnr hde hrc), (n_X5_treated hM s0 st dn rn hnj hnc hwl hs0 hst2 hp5 hnr hhS hiS hde hrc), ?_⟩
  intro r1 w1 r2 w2 h1 h2
  obtain ⟨rfl, h1⟩ := h1
  obtain ⟨rfl, h2⟩ := h2
  exact ⟨rfl, _, _, _, _, _, _, _, _, _, _, _, _, _, _, _, _, _, _, _, _, _, _, _, _, _, dn, rn, h1, h2, hG, ⟨hhS, hiS, hde, hwe, hrc⟩, hSh⟩
set_option maxHeartbeats 4000000 in
theorem inv_odds {l : Launch} {D : va_G} {a b : Nat → Nat} {cI cB cS : ClassId} {wc wm : va_W} (hI : INV a b cI cB cS wc wm) (c : Int32) (x : Int32) : ∃ P1 P2 : Int64 → va_W → Prop, Ml l yX4_odds cX4_odds 6 4 98 D cI cB cS [.ref (a 0), .int c, .int x] wc P1 ∧ Ml l yX5_odds cX5_odds 6 6 133 D cI cB cS [.ref (b 0), .int c, .int x] wm P2 ∧ ∀ r1 w1 r2 w2, P1 r1 w1 → P2 r2 w2 → r1 = r2 ∧ INV a b cI cB cS w1 w2 := by
  obtain ⟨tr, fa, hs, sl, g, sc, si, nj, nc, wl, s0, st, nr, kd, ag, de, ta, we, rC, rH, so, sn, ce, hS, iS, dn, rn, hC, hM, hG, ⟨hhS, hiS, hde, hwe, hrc⟩, hSh⟩ := hI
  have hG' := hG
  obtain ⟨hnj, hnc, hwl, hs0, hst2, hp5, hnr⟩ := hG'
  refine ⟨_, _, (c_X4_odds hC dn c x hnj hnc hwl hs0 hst2 hp5 hnr hde), (n_X5_odds hM s0 st dn c x hnj hnc hwl hs0 hst2 hp5 hnr hhS hiS hde), ?_⟩
  intro r1 w1 r2 w2 h1 h2
  obtain ⟨rfl, h1⟩ := h1
  obtain ⟨rfl, h2⟩ := h2
  exact ⟨rfl, _, _, _, _, _, _, _, _, _, _, _, _, _, _, _, _, _, _, _, _, _, _, _, _, _, dn, rn, h1, h2, hG, ⟨hhS, hiS, hde, hwe, hrc⟩, hSh⟩
set_option maxHeartbeats 4000000 in
theorem inv_tell {l : Launch} {D : va_G} {a b : Nat → Nat} {cI cB cS : ClassId} {wc wm : va_W} (hI : INV a b cI cB cS wc wm) (j : Int32) : ∃ P1 P2 : Int32 → va_W → Prop, Mi l yX4_tell cX4_tell 2 (some .int) 4 84 D cI cB cS [.ref (a 0), .int j] wc P1 ∧ Mi l yX5_tell cX5_tell 3 (some .int) 1 21 D cI cB cS [.ref (b 0), .int j] wm P2 ∧ ∀ r1 w1 r2 w2, P1 r1 w1 → P2 r2 w2 → r1 = r2 ∧ INV a b cI cB cS w1 w2 := by
  obtain ⟨tr, fa, hs, sl, g, sc, si, nj, nc, wl, s0, st, nr, kd, ag, de, ta, we, rC, rH, so, sn, ce, hS, iS, dn, rn, hC, hM, hG, ⟨hhS, hiS, hde, hwe, hrc⟩, hSh⟩ := hI
  have hG' := hG
  obtain ⟨hnj, hnc, hwl, hs0, hst2, hp5, hnr⟩ := hG'
  refine ⟨_, _, (c_X4_tell hC j hnj hnc hwl hs0 hst2 hp5 hnr), (n_X5_tell hM s0 st j hnj hnc hwl hs0 hst2 hp5 hnr), ?_⟩
  intro r1 w1 r2 w2 h1 h2
  obtain ⟨rfl, h1⟩ := h1
  obtain ⟨rfl, h2⟩ := h2
  exact ⟨rfl, _, _, _, _, _, _, _, _, _, _, _, _, _, _, _, _, _, _, _, _, _, _, _, _, _, dn, rn, h1, h2, hG, ⟨hhS, hiS, hde, hwe, hrc⟩, hSh⟩
set_option maxHeartbeats 4000000 in
theorem inv_hush {l : Launch} {D : va_G} {a b : Nat → Nat} {cI cB cS : ClassId} {wc wm : va_W} (hI : INV a b cI cB cS wc wm) (j : Int32) : ∃ P1 P2 : Int32 → va_W → Prop, Mi l yX4_hush cX4_hush 2 (some .int) 1 21 D cI cB cS [.ref (a 0), .int j] wc P1 ∧ Mi l yX5_hush cX5_hush 2 (some .int) 1 21 D cI cB cS [.ref (b 0), .int j] wm P2 ∧ ∀ r1 w1 r2 w2, P1 r1 w1 → P2 r2 w2 → r1 = r2 ∧ INV a b cI cB cS w1 w2 := by
  obtain ⟨tr, fa, hs, sl, g, sc, si, nj, nc, wl, s0, st, nr, kd, ag, de, ta, we, rC, rH, so, sn, ce, hS, iS, dn, rn, hC, hM, hG, ⟨hhS, hiS, hde, hwe, hrc⟩, hSh⟩ := hI
  have hG' := hG
  obtain ⟨hnj, hnc, hwl, hs0, hst2, hp5, hnr⟩ := hG'
  refine ⟨_, _, (c_X4_hush hC j hnj hnc hwl hs0 hst2 hp5 hnr), (n_X5_hush hM s0 st j hnj hnc hwl hs0 hst2 hp5 hnr), ?_⟩
  intro r1 w1 r2 w2 h1 h2
  obtain ⟨rfl, h1⟩ := h1
  obtain ⟨rfl, h2⟩ := h2
  exact ⟨rfl, _, _, _, _, _, _, _, _, _, _, _, _, _, _, _, _, _, _, _, _, _, _, _, _, _, dn, rn, h1, h2, hG, ⟨hhS, hiS, hde, hwe, hrc⟩, hSh⟩
set_option maxHeartbeats 4000000 in
theorem inv_as {l : Launch} {D : va_G} {a b : Nat → Nat} {cI cB cS : ClassId} {wc wm : va_W} (hI : INV a b cI cB cS wc wm) (j : Int32) (x : Int32) : ∃ P1 P2 : Int32 → va_W → Prop, Mi l yX4_as cX4_as 3 (some .int) 1 21 D cI cB cS [.ref (a 0), .int j, .int x] wc P1 ∧ Mi l yX5_as cX5_as 3 (some .int) 1 22 D cI cB cS [.ref (b 0), .int j, .int x] wm P2 ∧ ∀ r1 w1 r2 w2, P1 r1 w1 → P2 r2 w2 → r1 = r2 ∧ INV a b cI cB cS w1 w2 := by
  obtain ⟨tr, fa, hs, sl, g, sc, si, nj, nc, wl, s0, st, nr, kd, ag, de, ta, we, rC, rH, so, sn, ce, hS, iS, dn, rn, hC, hM, hG, ⟨hhS, hiS, hde, hwe, hrc⟩, hSh⟩ := hI
  have hG' := hG
  obtain ⟨hnj, hnc, hwl, hs0, hst2, hp5, hnr⟩ := hG'
  refine ⟨_, _, (c_X4_as hC j x hnj hnc hwl hs0 hst2 hp5 hnr), (n_X5_as hM s0 st j x hnj hnc hwl hs0 hst2 hp5 hnr), ?_⟩
  intro r1 w1 r2 w2 h1 h2
  obtain ⟨rfl, h1⟩ := h1
  obtain ⟨rfl, h2⟩ := h2
  exact ⟨rfl, _, _, _, _, _, _, _, _, _, _, _, _, _, _, _, _, _, _, _, _, _, _, _, _, _, dn, rn, h1, h2, hG, ⟨hhS, hiS, hde, hwe, hrc⟩, hSh⟩
set_option maxHeartbeats 4000000 in
theorem inv_trace {l : Launch} {D : va_G} {a b : Nat → Nat} {cI cB cS : ClassId} {wc wm : va_W} (hI : INV a b cI cB cS wc wm)  : ∃ P1 P2 : Int32 → va_W → Prop, Mi l yX4_trace cX4_trace 1 (some .int) 0 0 D cI cB cS [.ref (a 0)] wc P1 ∧ Mi l yX5_trace cX5_trace 1 (some .int) 0 0 D cI cB cS [.ref (b 0)] wm P2 ∧ ∀ r1 w1 r2 w2, P1 r1 w1 → P2 r2 w2 → r1 = r2 ∧ INV a b cI cB cS w1 w2 := by
  obtain ⟨tr, fa, hs, sl, g, sc, si, nj, nc, wl, s0, st, nr, kd, ag, de, ta, we, rC, rH, so, sn, ce, hS, iS, dn, rn, hC, hM, hG, ⟨hhS, hiS, hde, hwe, hrc⟩, hSh⟩ := hI
  have hG' := hG
  obtain ⟨hnj, hnc, hwl, hs0, hst2, hp5, hnr⟩ := hG'
  refine ⟨_, _, (c_X4_trace hC hnj hnc hwl hs0 hst2 hp5 hnr), (n_X5_trace hM s0 st hnj hnc hwl hs0 hst2 hp5 hnr), ?_⟩
  intro r1 w1 r2 w2 h1 h2
  obtain ⟨rfl, h1⟩ := h1
  obtain ⟨rfl, h2⟩ := h2
  exact ⟨rfl, _, _, _, _, _, _, _, _, _, _, _, _, _, _, _, _, _, _, _, _, _, _, _, _, _, dn, rn, h1, h2, hG, ⟨hhS, hiS, hde, hwe, hrc⟩, hSh⟩
set_option maxHeartbeats 4000000 in
theorem inv_fault {l : Launch} {D : va_G} {a b : Nat → Nat} {cI cB cS : ClassId} {wc wm : va_W} (hI : INV a b cI cB cS wc wm)  : ∃ P1 P2 : Int32 → va_W → Prop, Mi l yX4_fault cX4_fault 1 (some .int) 0 0 D cI cB cS [.ref (a 0)] wc P1 ∧ Mi l yX5_fault cX5_fault 1 (some .int) 0 0 D cI cB cS [.ref (b 0)] wm P2 ∧ ∀ r1 w1 r2 w2, P1 r1 w1 → P2 r2 w2 → r1 = r2 ∧ INV a b cI cB cS w1 w2 := by
  obtain ⟨tr, fa, hs, sl, g, sc, si, nj, nc, wl, s0, st, nr, kd, ag, de, ta, we, rC, rH, so, sn, ce, hS, iS, dn, rn, hC, hM, hG, ⟨hhS, hiS, hde, hwe, hrc⟩, hSh⟩ := hI
  have hG' := hG
  obtain ⟨hnj, hnc, hwl, hs0, hst2, hp5, hnr⟩ := hG'
  refine ⟨_, _, (c_X4_fault hC hnj hnc hwl hs0 hst2 hp5 hnr), (n_X5_fault hM s0 st hnj hnc hwl hs0 hst2 hp5 hnr), ?_⟩
  intro r1 w1 r2 w2 h1 h2
  obtain ⟨rfl, h1⟩ := h1
  obtain ⟨rfl, h2⟩ := h2
  exact ⟨rfl, _, _, _, _, _, _, _, _, _, _, _, _, _, _, _, _, _, _, _, _, _, _, _, _, _, dn, rn, h1, h2, hG, ⟨hhS, hiS, hde, hwe, hrc⟩, hSh⟩
set_option maxHeartbeats 4000000 in
theorem inv_many {l : Launch} {D : va_G} {a b : Nat → Nat} {cI cB cS : ClassId} {wc wm : va_W} (hI : INV a b cI cB cS wc wm) (x : Int32) : ∃ P1 P2 : Int32 → va_W → Prop, Mi l yX4_many cX4_many 2 (some .int) 0 0 D cI cB cS [.ref (a 0), .int x] wc P1 ∧ Mi l yX5_many cX5_many 2 (some .int) 0 0 D cI cB cS [.ref (b 0), .int x] wm P2 ∧ ∀ r1 w1 r2 w2, P1 r1 w1 → P2 r2 w2 → r1 = r2 ∧ INV a b cI cB cS w1 w2 := by
  obtain ⟨tr, fa, hs, sl, g, sc, si, nj, nc, wl, s0, st, nr, kd, ag, de, ta, we, rC, rH, so, sn, ce, hS, iS, dn, rn, hC, hM, hG, ⟨hhS, hiS, hde, hwe, hrc⟩, hSh⟩ := hI
  have hG' := hG
  obtain ⟨hnj, hnc, hwl, hs0, hst2, hp5, hnr⟩ := hG'
  refine ⟨_, _, (c_X4_many hC x hnj hnc hwl hs0 hst2 hp5 hnr), (n_X5_many hM s0 st x hnj hnc hwl hs0 hst2 hp5 hnr), ?_⟩
  intro r1 w1 r2 w2 h1 h2
  obtain ⟨rfl, h1⟩ := h1
  obtain ⟨rfl, h2⟩ := h2
  exact ⟨rfl, _, _, _, _, _, _, _, _, _, _, _, _, _, _, _, _, _, _, _, _, _, _, _, _, _, dn, rn, h1, h2, hG, ⟨hhS, hiS, hde, hwe, hrc⟩, hSh⟩
set_option maxHeartbeats 4000000 in
theorem inv_sitting {l : Launch} {D : va_G} {a b : Nat → Nat} {cI cB cS : ClassId} {wc wm : va_W} (hI : INV a b cI cB cS wc wm) (q : Int32) (x : Int32) (i : Int32) (n : Int32) (wh : Int32) : ∃ P1 P2 : Int32 → va_W → Prop, Mi l yX4_sitting cX4_sitting 8 (some .int) 4 98 D cI cB cS [.ref (a 0), .int q, .int x, .int i, .int n, .int wh] wc P1 ∧ Mi l yX5_sitting cX5_sitting 7 (some .int) 5 113 D cI cB cS [.ref (b 0), .int q, .int x, .int i, .int n, .int wh] wm P2 ∧ ∀ r1 w1 r2 w2, P1 r1 w1 → P2 r2 w2 → r1 = r2 ∧ INV a b cI cB cS w1 w2 := by
  obtain ⟨tr, fa, hs, sl, g, sc, si, nj, nc, wl, s0, st, nr, kd, ag, de, ta, we, rC, rH, so, sn, ce, hS, iS, dn, rn, hC, hM, hG, ⟨hhS, hiS, hde, hwe, hrc⟩, hSh⟩ := hI
  have hG' := hG
  obtain ⟨hnj, hnc, hwl, hs0, hst2, hp5, hnr⟩ := hG'
  obtain ⟨k, hk, hq⟩ := kOf q
  refine ⟨_, _, (c_X4_sitting hC k dn q x i n wh hk (hSh k hk).1 hq hnj hnc hwl hs0 hst2 hp5 hnr hde), (n_X5_sitting hM k (g k) (hs k) (sl k) s0 st dn (sc k) q x i n wh hk (hSh k hk).1 hq (hSh k hk).2.1 (hSh k hk).2.2.1 (hSh k hk).2.2.2.1 (hSh k hk).2.2.2.2 hnj hnc hwl hs0 hst2 hp5 hnr hhS hiS hde), ?_⟩
  intro r1 w1 r2 w2 h1 h2
  obtain ⟨rfl, h1⟩ := h1
  obtain ⟨rfl, h2⟩ := h2
  exact ⟨rfl, _, _, _, _, _, _, _, _, _, _, _, _, _, _, _, _, _, _, _, _, _, _, _, _, _, dn, rn, h1, h2, hG, ⟨hhS, hiS, hde, hwe, hrc⟩, hSh⟩
set_option maxHeartbeats 4000000 in
theorem inv_bribe {l : Launch} {D : va_G} {a b : Nat → Nat} {cI cB cS : ClassId} {wc wm : va_W} (hI : INV a b cI cB cS wc wm) (c : Int32) (q : Int32) (x : Int32) (i : Int32) (n : Int32) : ∃ P1 P2 : Int32 → va_W → Prop, Mi l yX4_bribe cX4_bribe 7 (some .int) 5 122 D cI cB cS [.ref (a 0), .int c, .int q, .int x, .int i, .int n] wc P1 ∧ Mi l yX5_bribe cX5_bribe 10 (some .int) 5 113 D cI cB cS [.ref (b 0), .int c, .int q, .int x, .int i, .int n] wm P2 ∧ ∀ r1 w1 r2 w2, P1 r1 w1 → P2 r2 w2 → r1 = r2 ∧ INV a b cI cB cS w1 w2 := by
  obtain ⟨tr, fa, hs, sl, g, sc, si, nj, nc, wl, s0, st, nr, kd, ag, de, ta, we, rC, rH, so, sn, ce, hS, iS, dn, rn, hC, hM, hG, ⟨hhS, hiS, hde, hwe, hrc⟩, hSh⟩ := hI
  have hG' := hG
  obtain ⟨hnj, hnc, hwl, hs0, hst2, hp5, hnr⟩ := hG'
  obtain ⟨k, hk, hq⟩ := kOf q
  refine ⟨_, _, (c_X4_bribe hC k dn c q x i n hk (hSh k hk).1 hq hnj hnc hwl hs0 hst2 hp5 hnr hde), (n_X5_bribe hM k (g k) (hs k) (sl k) s0 st dn (sc k) c q x i n hk (hSh k hk).1 hq (hSh k hk).2.1 (hSh k hk).2.2.1 (hSh k hk).2.2.2.1 (hSh k hk).2.2.2.2 hnj hnc hwl hs0 hst2 hp5 hnr hhS hiS hde), ?_⟩
  intro r1 w1 r2 w2 h1 h2
  obtain ⟨rfl, h1⟩ := h1
  obtain ⟨rfl, h2⟩ := h2
  exact ⟨rfl, _, _, _, _, _, _, _, _, _, _, _, _, _, _, _, _, _, _, _, _, _, _, _, _, _, dn, rn, h1, h2, hG, ⟨hhS, hiS, hde, hwe, hrc⟩, hSh⟩
set_option maxHeartbeats 4000000 in
theorem inv_cell {l : Launch} {D : va_G} {a b : Nat → Nat} {cI cB cS : ClassId} {wc wm : va_W} (hI : INV a b cI cB cS wc wm) (q : Int32) (i : Int32) (x : Int32) : ∃ P1 P2 : Int64 → va_W → Prop, Ml l yX4_cell cX4_cell 6 1 21 D cI cB cS [.ref (a 0), .int q, .int i, .int x] wc P1 ∧ Ml l yX5_cell cX5_cell 4 2 42 D cI cB cS [.ref (b 0), .int q, .int i, .int x] wm P2 ∧ ∀ r1 w1 r2 w2, P1 r1 w1 → P2 r2 w2 → r1 = r2 ∧ INV a b cI cB cS w1 w2 := by
  obtain ⟨tr, fa, hs, sl, g, sc, si, nj, nc, wl, s0, st, nr, kd, ag, de, ta, we, rC, rH, so, sn, ce, hS, iS, dn, rn, hC, hM, hG, ⟨hhS, hiS, hde, hwe, hrc⟩, hSh⟩ := hI
  have hG' := hG
  obtain ⟨hnj, hnc, hwl, hs0, hst2, hp5, hnr⟩ := hG'
  obtain ⟨k, hk, hq⟩ := kOf q
  refine ⟨_, _, (c_X4_cell hC k q i x hk (hSh k hk).1 hq), (n_X5_cell hM k (g k) (hs k) (sl k) (sc k) q i x hk (hSh k hk).1 hq (hSh k hk).2.1 (hSh k hk).2.2.1 (hSh k hk).2.2.2.1 (hSh k hk).2.2.2.2), ?_⟩
  intro r1 w1 r2 w2 h1 h2
  obtain ⟨rfl, h1⟩ := h1
  obtain ⟨rfl, h2⟩ := h2
  exact ⟨rfl, _, _, _, _, _, _, _, _, _, _, _, _, _, _, _, _, _, _, _, _, _, _, _, _, _, dn, rn, h1, h2, hG, ⟨hhS, hiS, hde, hwe, hrc⟩, hSh⟩
set_option maxHeartbeats 4000000 in
theorem inv_chalk {l : Launch} {D : va_G} {a b : Nat → Nat} {cI cB cS : ClassId} {wc wm : va_W} (hI : INV a b cI cB cS wc wm) (x : Int32) : ∃ P1 P2 : Int32 → va_W → Prop, Mi l yX4_chalk cX4_chalk 3 (some .int) 1 20 D cI cB cS [.ref (a 0), .int x] wc P1 ∧ Mi l yX5_chalk cX5_chalk 3 (some .int) 1 22 D cI cB cS [.ref (b 0), .int x] wm P2 ∧ ∀ r1 w1 r2 w2, P1 r1 w1 → P2 r2 w2 → r1 = r2 ∧ INV a b cI cB cS w1 w2 := by
  obtain ⟨tr, fa, hs, sl, g, sc, si, nj, nc, wl, s0, st, nr, kd, ag, de, ta, we, rC, rH, so, sn, ce, hS, iS, dn, rn, hC, hM, hG, ⟨hhS, hiS, hde, hwe, hrc⟩, hSh⟩ := hI
  have hG' := hG
  obtain ⟨hnj, hnc, hwl, hs0, hst2, hp5, hnr⟩ := hG'
  refine ⟨_, _, (c_X4_chalk hC x hnj hnc hwl hs0 hst2 hp5 hnr), (n_X5_chalk hM s0 st x hnj hnc hwl hs0 hst2 hp5 hnr), ?_⟩
  intro r1 w1 r2 w2 h1 h2
  obtain ⟨rfl, h1⟩ := h1
  obtain ⟨rfl, h2⟩ := h2
  exact ⟨rfl, _, _, _, _, _, _, _, _, _, _, _, _, _, _, _, _, _, _, _, _, _, _, _, _, _, dn, rn, h1, h2, ⟨hnj, hnc, ck_lt hwl, hs0, hst2, hp5, hnr⟩, ⟨hhS, hiS, hde, hwe, hrc⟩, hSh⟩
set_option maxHeartbeats 4000000 in
theorem inv_treat1 {l : Launch} {D : va_G} {a b : Nat → Nat} {cI cB cS : ClassId} {wc wm : va_W} (hI : INV a b cI cB cS wc wm) (j : Int32) : ∃ P1 P2 : Int32 → va_W → Prop, Mi l yX4_treat cX4_treat 4 (some .int) 1 22 D cI cB cS [.ref (a 0), .int j, .int 1] wc P1 ∧ Mi l yX5_treat cX5_treat 4 (some .int) 1 21 D cI cB cS [.ref (b 0), .int j, .int 1] wm P2 ∧ ∀ r1 w1 r2 w2, P1 r1 w1 → P2 r2 w2 → r1 = r2 ∧ INV a b cI cB cS w1 w2 := by
  obtain ⟨tr, fa, hs, sl, g, sc, si, nj, nc, wl, s0, st, nr, kd, ag, de, ta, we, rC, rH, so, sn, ce, hS, iS, dn, rn, hC, hM, hG, ⟨hhS, hiS, hde, hwe, hrc⟩, hSh⟩ := hI
  have hG' := hG
  obtain ⟨hnj, hnc, hwl, hs0, hst2, hp5, hnr⟩ := hG'
  refine ⟨_, _, (c_X4_treat hC j 1 hnj hnc hwl hs0 hst2 hp5 hnr), (n_X5_treat1 hM s0 st j hnj hnc hwl hs0 hst2 hp5 hnr hhS), ?_⟩
  intro r1 w1 r2 w2 h1 h2
  obtain ⟨rfl, h1⟩ := h1
  obtain ⟨rfl, h2⟩ := h2
  exact ⟨rfl, _, _, _, _, _, _, _, _, _, _, _, _, _, _, _, _, _, _, _, _, _, _, _, _, _, dn, rn, h1, h2, ⟨hnj, hnc, hwl, (tr_1 hnj hs0 hhS).1, hst2, hp5, hnr⟩, ⟨(tr_1 hnj hs0 hhS).2, hiS, hde, hwe, hrc⟩, hSh⟩
set_option maxHeartbeats 4000000 in
theorem inv_strike1 {l : Launch} {D : va_G} {a b : Nat → Nat} {cI cB cS : ClassId} {wc wm : va_W} (hI : INV a b cI cB cS wc wm) (j : Int32) : ∃ P1 P2 : Int32 → va_W → Prop, Mi l yX4_strike cX4_strike 4 (some .int) 1 22 D cI cB cS [.ref (a 0), .int j, .int 1] wc P1 ∧ Mi l yX5_strike cX5_strike 4 (some .int) 1 21 D cI cB cS [.ref (b 0), .int j, .int 1] wm P2 ∧ ∀ r1 w1 r2 w2, P1 r1 w1 → P2 r2 w2 → r1 = r2 ∧ INV a b cI cB cS w1 w2 := by
  obtain ⟨tr, fa, hs, sl, g, sc, si, nj, nc, wl, s0, st, nr, kd, ag, de, ta, we, rC, rH, so, sn, ce, hS, iS, dn, rn, hC, hM, hG, ⟨hhS, hiS, hde, hwe, hrc⟩, hSh⟩ := hI
  have hG' := hG
  obtain ⟨hnj, hnc, hwl, hs0, hst2, hp5, hnr⟩ := hG'
  refine ⟨_, _, (c_X4_strike hC j 1 hnj hnc hwl hs0 hst2 hp5 hnr), (n_X5_strike1 hM s0 st j hnj hnc hwl hs0 hst2 hp5 hnr hiS), ?_⟩
  intro r1 w1 r2 w2 h1 h2
  obtain ⟨rfl, h1⟩ := h1
  obtain ⟨rfl, h2⟩ := h2
  exact ⟨rfl, _, _, _, _, _, _, _, _, _, _, _, _, _, _, _, _, _, _, _, _, _, _, _, _, _, dn, rn, h1, h2, ⟨hnj, hnc, hwl, hs0, (tr_1 hnj hst2 hiS).1, hp5, hnr⟩, ⟨hhS, (tr_1 hnj hst2 hiS).2, hde, hwe, hrc⟩, hSh⟩
set_option maxHeartbeats 4000000 in
theorem inv_treat0 {l : Launch} {D : va_G} {a b : Nat → Nat} {cI cB cS : ClassId} {wc wm : va_W} (hI : INV a b cI cB cS wc wm) (j : Int32) : ∃ P1 P2 : Int32 → va_W → Prop, Mi l yX4_treat cX4_treat 4 (some .int) 1 22 D cI cB cS [.ref (a 0), .int j, .int 0] wc P1 ∧ Mi l yX5_treat cX5_treat 4 (some .int) 1 21 D cI cB cS [.ref (b 0), .int j, .int 0] wm P2 ∧ ∀ r1 w1 r2 w2, P1 r1 w1 → P2 r2 w2 → r1 = r2 ∧ INV a b cI cB cS w1 w2 := by
  obtain ⟨tr, fa, hs, sl, g, sc, si, nj, nc, wl, s0, st, nr, kd, ag, de, ta, we, rC, rH, so, sn, ce, hS, iS, dn, rn, hC, hM, hG, ⟨hhS, hiS, hde, hwe, hrc⟩, hSh⟩ := hI
  have hG' := hG
  obtain ⟨hnj, hnc, hwl, hs0, hst2, hp5, hnr⟩ := hG'
  refine ⟨_, _, (c_X4_treat hC j 0 hnj hnc hwl hs0 hst2 hp5 hnr), (n_X5_treat0 hM s0 st j hnj hnc hwl hs0 hst2 hp5 hnr hhS), ?_⟩
  intro r1 w1 r2 w2 h1 h2
  obtain ⟨rfl, h1⟩ := h1
  obtain ⟨rfl, h2⟩ := h2
  exact ⟨rfl, _, _, _, _, _, _, _, _, _, _, _, _, _, _, _, _, _, _, _, _, _, _, _, _, _, dn, rn, h1, h2, ⟨hnj, hnc, hwl, (tr_0 hnj hs0 hhS).1, hst2, hp5, hnr⟩, ⟨(tr_0 hnj hs0 hhS).2, hiS, hde, hwe, hrc⟩, hSh⟩
set_option maxHeartbeats 4000000 in
theorem inv_strike0 {l : Launch} {D : va_G} {a b : Nat → Nat} {cI cB cS : ClassId} {wc wm : va_W} (hI : INV a b cI cB cS wc wm) (j : Int32) : ∃ P1 P2 : Int32 → va_W → Prop, Mi l yX4_strike cX4_strike 4 (some .int) 1 22 D cI cB cS [.ref (a 0), .int j, .int 0] wc P1 ∧ Mi l yX5_strike cX5_strike 4 (some .int) 1 21 D cI cB cS [.ref (b 0), .int j, .int 0] wm P2 ∧ ∀ r1 w1 r2 w2, P1 r1 w1 → P2 r2 w2 → r1 = r2 ∧ INV a b cI cB cS w1 w2 := by
  obtain ⟨tr, fa, hs, sl, g, sc, si, nj, nc, wl, s0, st, nr, kd, ag, de, ta, we, rC, rH, so, sn, ce, hS, iS, dn, rn, hC, hM, hG, ⟨hhS, hiS, hde, hwe, hrc⟩, hSh⟩ := hI
  have hG' := hG
  obtain ⟨hnj, hnc, hwl, hs0, hst2, hp5, hnr⟩ := hG'
  refine ⟨_, _, (c_X4_strike hC j 0 hnj hnc hwl hs0 hst2 hp5 hnr), (n_X5_strike0 hM s0 st j hnj hnc hwl hs0 hst2 hp5 hnr hiS), ?_⟩
  intro r1 w1 r2 w2 h1 h2
  obtain ⟨rfl, h1⟩ := h1
  obtain ⟨rfl, h2⟩ := h2
  exact ⟨rfl, _, _, _, _, _, _, _, _, _, _, _, _, _, _, _, _, _, _, _, _, _, _, _, _, _, dn, rn, h1, h2, ⟨hnj, hnc, hwl, hs0, (tr_0 hnj hst2 hiS).1, hp5, hnr⟩, ⟨hhS, (tr_0 hnj hst2 hiS).2, hde, hwe, hrc⟩, hSh⟩
set_option maxHeartbeats 4000000 in
theorem inv_reading {l : Launch} {D : va_G} {a b : Nat → Nat} {cI cB cS : ClassId} {wc wm : va_W} (hI : INV a b cI cB cS wc wm) (c : Int32) (h_ : Int32) : ∃ P1 P2 : Int32 → va_W → Prop, Mi l yX4_reading cX4_reading 4 (some .int) 1 21 D cI cB cS [.ref (a 0), .int c, .int h_] wc P1 ∧ Mi l yX5_reading cX5_reading 3 (some .int) 1 22 D cI cB cS [.ref (b 0), .int c, .int h_] wm P2 ∧ ∀ r1 w1 r2 w2, P1 r1 w1 → P2 r2 w2 → r1 = r2 ∧ INV a b cI cB cS w1 w2 := by
  obtain ⟨tr, fa, hs, sl, g, sc, si, nj, nc, wl, s0, st, nr, kd, ag, de, ta, we, rC, rH, so, sn, ce, hS, iS, dn, rn, hC, hM, hG, ⟨hhS, hiS, hde, hwe, hrc⟩, hSh⟩ := hI
  have hG' := hG
  obtain ⟨hnj, hnc, hwl, hs0, hst2, hp5, hnr⟩ := hG'
  obtain ⟨hr8, rn', hrc'⟩ := rd_ok (c := c) (h := h_) hnc hnr hrc
  refine ⟨_, _, (c_X4_reading hC c h_ hnj hnc hwl hs0 hst2 hp5 hnr), (n_X5_reading hM s0 st c h_ hnj hnc hwl hs0 hst2 hp5 hnr), ?_⟩
  intro r1 w1 r2 w2 h1 h2
  obtain ⟨rfl, h1⟩ := h1
  obtain ⟨rfl, h2⟩ := h2
  exact ⟨rfl, _, _, _, _, _, _, _, _, _, _, _, _, _, _, _, _, _, _, _, _, _, _, _, _, _, dn, rn', h1, h2, ⟨hnj, hnc, hwl, hs0, hst2, hp5, hr8⟩, ⟨hhS, hiS, hde, hwe, hrc'⟩, hSh⟩
set_option maxHeartbeats 4000000 in
theorem inv_back {l : Launch} {D : va_G} {a b : Nat → Nat} {cI cB cS : ClassId} {wc wm : va_W} (hI : INV a b cI cB cS wc wm) (k_ : Int32) : ∃ P1 P2 : Int32 → va_W → Prop, Mi l yX4_back cX4_back 2 (some .int) 0 0 D cI cB cS [.ref (a 0), .int k_] wc P1 ∧ Mi l yX5_back cX5_back 2 (some .int) 1 22 D cI cB cS [.ref (b 0), .int k_] wm P2 ∧ ∀ r1 w1 r2 w2, P1 r1 w1 → P2 r2 w2 → r1 = r2 ∧ INV a b cI cB cS w1 w2 := by
  obtain ⟨tr, fa, hs, sl, g, sc, si, nj, nc, wl, s0, st, nr, kd, ag, de, ta, we, rC, rH, so, sn, ce, hS, iS, dn, rn, hC, hM, hG, ⟨hhS, hiS, hde, hwe, hrc⟩, hSh⟩ := hI
  have hG' := hG
  obtain ⟨hnj, hnc, hwl, hs0, hst2, hp5, hnr⟩ := hG'
  refine ⟨_, _, (c_X4_back hC k_ hnj hnc hwl hs0 hst2 hp5 hnr), (n_X5_back hM s0 st k_ hnj hnc hwl hs0 hst2 hp5 hnr), ?_⟩
  intro r1 w1 r2 w2 h1 h2
  obtain ⟨rfl, h1⟩ := h1
  obtain ⟨rfl, h2⟩ := h2
  exact ⟨rfl, _, _, _, _, _, _, _, _, _, _, _, _, _, _, _, _, _, _, _, _, _, _, _, _, _, dn, rn, h1, h2, ⟨hnj, hnc, hwl, hs0, hst2, hp5, Nat.le_trans bk_le hnr⟩, ⟨hhS, hiS, hde, hwe, fun q hq => hrc q (Nat.lt_of_lt_of_le hq bk_le)⟩, hSh⟩
set_option maxHeartbeats 4000000 in
theorem inv_sheet {l : Launch} {D : va_G} {a b : Nat → Nat} {cI cB cS : ClassId} {wc wm : va_W} (hI : INV a b cI cB cS wc wm) (q : Int32) (x : Int32) (n : Int32) : ∃ P1 P2 : Int32 → va_W → Prop, Mi l yX4_sheet cX4_sheet 4 (some .int) 2 45 D cI cB cS [.ref (a 0), .int q, .int x, .int n] wc P1 ∧ Mi l yX5_sheet cX5_sheet 5 (some .int) 2 42 D cI cB cS [.ref (b 0), .int q, .int x, .int n] wm P2 ∧ ∀ r1 w1 r2 w2, P1 r1 w1 → P2 r2 w2 → r1 = r2 ∧ INV a b cI cB cS w1 w2 := by
  obtain ⟨tr, fa, hs, sl, g, sc, si, nj, nc, wl, s0, st, nr, kd, ag, de, ta, we, rC, rH, so, sn, ce, hS, iS, dn, rn, hC, hM, hG, ⟨hhS, hiS, hde, hwe, hrc⟩, hSh⟩ := hI
  have hG' := hG
  obtain ⟨hnj, hnc, hwl, hs0, hst2, hp5, hnr⟩ := hG'
  obtain ⟨k, hk, hq⟩ := kOf q
  refine ⟨_, _, (c_X4_sheet hC k q x n hk (hSh k hk).1 hq), (n_X5_sheet hM k (g k) (hs k) (sl k) q x n hk (hSh k hk).1 hq (hSh k hk).2.1 (hSh k hk).2.2.1 (hSh k hk).2.2.2.1), ?_⟩
  intro r1 w1 r2 w2 h1 h2
  obtain ⟨rfl, h1⟩ := h1
  obtain ⟨rfl, h2⟩ := h2
  exact ⟨rfl, _, _, _, _, _, _, _, _, _, _, _, _, _, _, _, _, _, _, _, _, _, _, _, _, _, dn, rn, h1, h2, hG, ⟨hhS, hiS, hde, hwe, hrc⟩, sh_sheet hSh⟩
set_option maxHeartbeats 4000000 in
theorem inv_lose {l : Launch} {D : va_G} {a b : Nat → Nat} {cI cB cS : ClassId} {wc wm : va_W} (hI : INV a b cI cB cS wc wm) (q : Int32) : ∃ P1 P2 : Int32 → va_W → Prop, Mi l yX4_lose cX4_lose 3 (some .int) 1 20 D cI cB cS [.ref (a 0), .int q] wc P1 ∧ Mi l yX5_lose cX5_lose 3 (some .int) 2 42 D cI cB cS [.ref (b 0), .int q] wm P2 ∧ ∀ r1 w1 r2 w2, P1 r1 w1 → P2 r2 w2 → r1 = r2 ∧ INV a b cI cB cS w1 w2 := by
  obtain ⟨tr, fa, hs, sl, g, sc, si, nj, nc, wl, s0, st, nr, kd, ag, de, ta, we, rC, rH, so, sn, ce, hS, iS, dn, rn, hC, hM, hG, ⟨hhS, hiS, hde, hwe, hrc⟩, hSh⟩ := hI
  have hG' := hG
  obtain ⟨hnj, hnc, hwl, hs0, hst2, hp5, hnr⟩ := hG'
  obtain ⟨k, hk, hq⟩ := kOf q
  refine ⟨_, _, (c_X4_lose hC k q hk (hSh k hk).1 hq), (n_X5_lose hM k (g k) (hs k) (sl k) q hk (hSh k hk).1 hq (hSh k hk).2.1 (hSh k hk).2.2.1 (hSh k hk).2.2.2.1), ?_⟩
  intro r1 w1 r2 w2 h1 h2
  obtain ⟨rfl, h1⟩ := h1
  obtain ⟨rfl, h2⟩ := h2
  exact ⟨rfl, _, _, _, _, _, _, _, _, _, _, _, _, _, _, _, _, _, _, _, _, _, _, _, _, _, dn, rn, h1, h2, hG, ⟨hhS, hiS, hde, hwe, hrc⟩, sh_lose hSh⟩
set_option maxHeartbeats 4000000 in
theorem inv_put {l : Launch} {D : va_G} {a b : Nat → Nat} {cI cB cS : ClassId} {wc wm : va_W} (hI : INV a b cI cB cS wc wm) (q : Int32) (i : Int32) (v : Int32) : ∃ P1 P2 : Int32 → va_W → Prop, Mi l yX4_put cX4_put 5 (some .int) 1 21 D cI cB cS [.ref (a 0), .int q, .int i, .int v] wc P1 ∧ Mi l yX5_put cX5_put 4 (some .int) 2 42 D cI cB cS [.ref (b 0), .int q, .int i, .int v] wm P2 ∧ ∀ r1 w1 r2 w2, P1 r1 w1 → P2 r2 w2 → r1 = r2 ∧ INV a b cI cB cS w1 w2 := by
  obtain ⟨tr, fa, hs, sl, g, sc, si, nj, nc, wl, s0, st, nr, kd, ag, de, ta, we, rC, rH, so, sn, ce, hS, iS, dn, rn, hC, hM, hG, ⟨hhS, hiS, hde, hwe, hrc⟩, hSh⟩ := hI
  have hG' := hG
  obtain ⟨hnj, hnc, hwl, hs0, hst2, hp5, hnr⟩ := hG'
  obtain ⟨k, hk, hq⟩ := kOf q
  refine ⟨_, _, (c_X4_put hC k q i v hk (hSh k hk).1 hq), (n_X5_put hM k (g k) (hs k) (sl k) q i v hk (hSh k hk).1 hq (hSh k hk).2.1 (hSh k hk).2.2.1 (hSh k hk).2.2.2.1), ?_⟩
  intro r1 w1 r2 w2 h1 h2
  obtain ⟨rfl, h1⟩ := h1
  obtain ⟨rfl, h2⟩ := h2
  exact ⟨rfl, _, _, _, _, _, _, _, _, _, _, _, _, _, _, _, _, _, _, _, _, _, _, _, _, _, dn, rn, h1, h2, hG, ⟨hhS, hiS, hde, hwe, hrc⟩, sh_put hSh hk⟩
set_option maxHeartbeats 4000000 in
theorem inv_copy {l : Launch} {D : va_G} {a b : Nat → Nat} {cI cB cS : ClassId} {wc wm : va_W} (hI : INV a b cI cB cS wc wm) (q : Int32) (i : Int32) (q2 : Int32) (j : Int32) (n : Int32) : ∃ P1 P2 : Int32 → va_W → Prop, Mi l yX4_copy cX4_copy 8 (some .int) 1 26 D cI cB cS [.ref (a 0), .int q, .int i, .int q2, .int j, .int n] wc P1 ∧ Mi l yX5_copy cX5_copy 10 (some .int) 2 42 D cI cB cS [.ref (b 0), .int q, .int i, .int q2, .int j, .int n] wm P2 ∧ ∀ r1 w1 r2 w2, P1 r1 w1 → P2 r2 w2 → r1 = r2 ∧ INV a b cI cB cS w1 w2 := by
  obtain ⟨tr, fa, hs, sl, g, sc, si, nj, nc, wl, s0, st, nr, kd, ag, de, ta, we, rC, rH, so, sn, ce, hS, iS, dn, rn, hC, hM, hG, ⟨hhS, hiS, hde, hwe, hrc⟩, hSh⟩ := hI
  have hG' := hG
  obtain ⟨hnj, hnc, hwl, hs0, hst2, hp5, hnr⟩ := hG'
  obtain ⟨k, hk, hq⟩ := kOf q
  obtain ⟨k2, hk2, hqq⟩ := kOf q2
  by_cases e : k = k2
  · subst e
    refine ⟨_, _, (c_X4_copyS hC k q i q2 j n hk (hSh k hk).1 hq hqq), (n_X5_copy hM k (g k) (hs k) (sl k) k (g k) (hs k) (sl k) q i q2 j n hk (hSh k hk).1 hq (hSh k hk).2.1 (hSh k hk).2.2.1 (hSh k hk).2.2.2.1 hk (hSh k hk).1 hqq (hSh k hk).2.1 (hSh k hk).2.2.1 (hSh k hk).2.2.2.1), ?_⟩
    intro r1 w1 r2 w2 h1 h2
    obtain ⟨rfl, h1⟩ := h1
    obtain ⟨rfl, h2⟩ := h2
    exact ⟨rfl, _, _, _, _, _, _, _, _, _, _, _, _, _, _, _, _, _, _, _, _, _, _, _, _, _, dn, rn, h1, h2, hG, ⟨hhS, hiS, hde, hwe, hrc⟩, sh_copy hSh hk hk⟩
  · refine ⟨_, _, (c_X4_copyD hC k k2 q i q2 j n hk (hSh k hk).1 hq hk2 (hSh k2 hk2).1 hqq e), (n_X5_copy hM k (g k) (hs k) (sl k) k2 (g k2) (hs k2) (sl k2) q i q2 j n hk (hSh k hk).1 hq (hSh k hk).2.1 (hSh k hk).2.2.1 (hSh k hk).2.2.2.1 hk2 (hSh k2 hk2).1 hqq (hSh k2 hk2).2.1 (hSh k2 hk2).2.2.1 (hSh k2 hk2).2.2.2.1), ?_⟩
    intro r1 w1 r2 w2 h1 h2
    obtain ⟨rfl, h1⟩ := h1
    obtain ⟨rfl, h2⟩ := h2
    exact ⟨rfl, _, _, _, _, _, _, _, _, _, _, _, _, _, _, _, _, _, _, _, _, _, _, _, _, _, dn, rn, h1, h2, hG, ⟨hhS, hiS, hde, hwe, hrc⟩, sh_copy hSh hk hk2⟩
set_option maxHeartbeats 4000000 in
theorem inv_court {l : Launch} {D : va_G} {a b : Nat → Nat} {cI cB cS : ClassId} {wc wm : va_W} (hI : INV a b cI cB cS wc wm) (q : Int32) (x : Int32) (i : Int32) (n : Int32) : ∃ P1 P2 : Int32 → va_W → Prop, Mi l yX4_court cX4_court 8 (some .int) 5 107 D cI cB cS [.ref (a 0), .int q, .int x, .int i, .int n] wc P1 ∧ Mi l yX5_court cX5_court 8 (some .int) 4 89 D cI cB cS [.ref (b 0), .int q, .int x, .int i, .int n] wm P2 ∧ ∀ r1 w1 r2 w2, P1 r1 w1 → P2 r2 w2 → r1 = r2 ∧ INV a b cI cB cS w1 w2 := by
  obtain ⟨tr, fa, hs, sl, g, sc, si, nj, nc, wl, s0, st, nr, kd, ag, de, ta, we, rC, rH, so, sn, ce, hS, iS, dn, rn, hC, hM, hG, ⟨hhS, hiS, hde, hwe, hrc⟩, hSh⟩ := hI
  have hG' := hG
  obtain ⟨hnj, hnc, hwl, hs0, hst2, hp5, hnr⟩ := hG'
  obtain ⟨k, hk, hq⟩ := kOf q
  refine ⟨_, _, c_X4_court hC k q x i n hk (hSh k hk).1 hq, n_X5_court hM k (g k) (hs k) (sl k) (sc k) q x i n hk (hSh k hk).1 hq (hSh k hk).2.1 (hSh k hk).2.2.1 (hSh k hk).2.2.2.1 (hSh k hk).2.2.2.2, ?_⟩
  intro r1 w1 r2 w2 h1 h2
  rcases h1 with ⟨o1, rfl, h1⟩ | ⟨o1, p1, f1, rfl, h1⟩ | ⟨o1, nj1, nc1, t1, rfl, h1⟩
  · rcases h2 with ⟨o2, rfl, h2⟩ | ⟨o2, p2, f2, rfl, h2⟩ | ⟨o2, nj2, nc2, t2, rfl, h2⟩
    · exact ⟨rfl, _, _, _, _, _, _, _, _, _, _, _, _, _, _, _, _, _, _, _, _, _, _, _, _, _, dn, rn, h1, h2, hG, ⟨hhS, hiS, hde, hwe, hrc⟩, hSh⟩
    · exact absurd o2 o1
    · exact absurd o2 o1
  · rcases h2 with ⟨o2, rfl, h2⟩ | ⟨o2, p2, f2, rfl, h2⟩ | ⟨o2, nj2, nc2, t2, rfl, h2⟩
    · exact absurd o1 o2
    · have ep : p1 = p2 := Option.some.inj (f1.symm.trans f2)
      subst ep
      exact ⟨rfl, _, _, _, _, _, _, _, _, _, _, _, _, _, _, _, _, _, _, _, _, _, _, _, _, _, dn, rn, h1, h2, hG, ⟨hhS, hiS, hde, hwe, hrc⟩, hSh⟩
    · exact absurd (f1.symm.trans t2.1) (by simp)
  · rcases h2 with ⟨o2, rfl, h2⟩ | ⟨o2, p2, f2, rfl, h2⟩ | ⟨o2, nj2, nc2, t2, rfl, h2⟩
    · exact absurd o1 o2
    · exact absurd (f2.symm.trans t1.1) (by simp)
    · obtain ⟨rfl, rfl⟩ := tx_same t1 t2
      obtain ⟨dn', hde'⟩ := tx_de (de := de) t1
      have q1 := t1.2.2.2.1
      have q2 := t1.2.2.2.2.2.1
      exact ⟨rfl, _, _, _, _, _, _, _, _, _, _, _, _, _, _, _, _, _, _, _, _, _, _, _, _, _, dn', rn, h1, h2, ⟨q1, q2, by decide, Nat.two_pow_pos _, Nat.two_pow_pos _, pow5 q1, by decide⟩, ⟨fl_bA, fl_bA, hde', tx_we t1, fun q hq => absurd hq (Nat.not_lt_zero q)⟩, hSh⟩
