set_option maxHeartbeats 4000000 in
theorem c_X4_ofJuror {l : Launch} {D : va_G} {cI cB cS : ClassId} {a : Nat → Nat} {tr fa : Int32} {hs sl : Nat → Int32} {g : Nat → Nat} {sc : Nat → Nat → Int32} {si : Int32} {nj nc wl s0 st nr : Nat} {kd ag de ta we rC rH : Nat → Int32} {w : va_W} (hw : CW a cI cS tr fa hs sl g sc si nj nc wl s0 st nr kd ag de ta we rC rH w) (j : Int32) (x : Int32) (hnj : nj ≤ 5) (hnc : nc ≤ 5) (hlw : wl < 64) (hs0 : s0 < 2 ^ nj) (hst2 : st < 2 ^ nj) (hp5 : 2 ^ nj ≤ 32) (hnr : nr ≤ 8) : Mi l yX4_ofJuror cX4_ofJuror 3 (some .int) 1 21 D cI cB cS [.ref (a 0), .int j, .int x] w (fun r u => r = ojF nj kd ag s0 st j x ∧ CW a cI cS tr fa hs sl g sc si nj nc wl s0 st nr kd ag de ta we rC rH u) := by
  obtain ⟨tl, tf, tc, ln, lw, ss, sx, un, en, se, tk, od, ve, vd, bo, rfl⟩ := hw
  refine Mi.whole (m_X4_ofJuror a nj nc wl s0 st nr tr fa bo ln lw ss sx un en se tk od ve vd si kd ag de ta we rC rH j x hnj hnc hlw hs0 hst2 hp5 hnr) sb0 (fun r u h => ?_)
  obtain ⟨rfl, rfl⟩ := h
  exact ⟨_, pm0, rfl, tl, tf, tc, ln, lw, ss, sx, un, en, se, tk, od, ve, vd, bo, rfl⟩
set_option maxHeartbeats 4000000 in
theorem c_X4_ofCase {l : Launch} {D : va_G} {cI cB cS : ClassId} {a : Nat → Nat} {tr fa : Int32} {hs sl : Nat → Int32} {g : Nat → Nat} {sc : Nat → Nat → Int32} {si : Int32} {nj nc wl s0 st nr : Nat} {kd ag de ta we rC rH : Nat → Int32} {w : va_W} (hw : CW a cI cS tr fa hs sl g sc si nj nc wl s0 st nr kd ag de ta we rC rH w) (c : Int32) (x : Int32) (hnj : nj ≤ 5) (hnc : nc ≤ 5) (hlw : wl < 64) (hs0 : s0 < 2 ^ nj) (hst2 : st < 2 ^ nj) (hp5 : 2 ^ nj ≤ 32) (hnr : nr ≤ 8) : Mi l yX4_ofCase cX4_ofCase 3 (some .int) 1 21 D cI cB cS [.ref (a 0), .int c, .int x] w (fun r u => r = ocF nc de ta we c x ∧ CW a cI cS tr fa hs sl g sc si nj nc wl s0 st nr kd ag de ta we rC rH u) := by
  obtain ⟨tl, tf, tc, ln, lw, ss, sx, un, en, se, tk, od, ve, vd, bo, rfl⟩ := hw
  refine Mi.whole (m_X4_ofCase a nj nc wl s0 st nr tr fa bo ln lw ss sx un en se tk od ve vd si kd ag de ta we rC rH c x hnj hnc hlw hs0 hst2 hp5 hnr) sb0 (fun r u h => ?_)
  obtain ⟨rfl, rfl⟩ := h
  exact ⟨_, pm0, rfl, tl, tf, tc, ln, lw, ss, sx, un, en, se, tk, od, ve, vd, bo, rfl⟩
set_option maxHeartbeats 4000000 in
theorem c_X4_chalk {l : Launch} {D : va_G} {cI cB cS : ClassId} {a : Nat → Nat} {tr fa : Int32} {hs sl : Nat → Int32} {g : Nat → Nat} {sc : Nat → Nat → Int32} {si : Int32} {nj nc wl s0 st nr : Nat} {kd ag de ta we rC rH : Nat → Int32} {w : va_W} (hw : CW a cI cS tr fa hs sl g sc si nj nc wl s0 st nr kd ag de ta we rC rH w) (x : Int32) (hnj : nj ≤ 5) (hnc : nc ≤ 5) (hlw : wl < 64) (hs0 : s0 < 2 ^ nj) (hst2 : st < 2 ^ nj) (hp5 : 2 ^ nj ≤ 32) (hnr : nr ≤ 8) : Mi l yX4_chalk cX4_chalk 3 (some .int) 1 20 D cI cB cS [.ref (a 0), .int x] w (fun r u => r = ckF nc wl x ∧ CW a cI cS tr fa hs sl g sc si nj nc (ckW nc wl x) s0 st nr kd ag de ta we rC rH u) := by
  obtain ⟨tl, tf, tc, ln, lw, ss, sx, un, en, se, tk, od, ve, vd, bo, rfl⟩ := hw
  refine Mi.whole (m_X4_chalk a nj nc wl s0 st nr tr fa bo ln lw ss sx un en se tk od ve vd si kd ag de ta we rC rH x hnj hnc hlw hs0 hst2 hp5 hnr) sb0 (fun r u h => ?_)
  obtain ⟨rfl, rfl⟩ := h
  exact ⟨_, pm0, rfl, tl, tf, tc, ln, lw, ss, sx, un, en, se, tk, od, ve, vd, bo, rfl⟩
set_option maxHeartbeats 4000000 in
theorem c_X4_treat {l : Launch} {D : va_G} {cI cB cS : ClassId} {a : Nat → Nat} {tr fa : Int32} {hs sl : Nat → Int32} {g : Nat → Nat} {sc : Nat → Nat → Int32} {si : Int32} {nj nc wl s0 st nr : Nat} {kd ag de ta we rC rH : Nat → Int32} {w : va_W} (hw : CW a cI cS tr fa hs sl g sc si nj nc wl s0 st nr kd ag de ta we rC rH w) (j : Int32) (is : Int32) (hnj : nj ≤ 5) (hnc : nc ≤ 5) (hlw : wl < 64) (hs0 : s0 < 2 ^ nj) (hst2 : st < 2 ^ nj) (hp5 : 2 ^ nj ≤ 32) (hnr : nr ≤ 8) : Mi l yX4_treat cX4_treat 4 (some .int) 1 22 D cI cB cS [.ref (a 0), .int j, .int is] w (fun r u => r = trF nj s0 j is ∧ CW a cI cS tr fa hs sl g sc si nj nc wl (trW nj s0 j is) st nr kd ag de ta we rC rH u) := by
  obtain ⟨tl, tf, tc, ln, lw, ss, sx, un, en, se, tk, od, ve, vd, bo, rfl⟩ := hw
  refine Mi.whole (m_X4_treat a nj nc wl s0 st nr tr fa bo ln lw ss sx un en se tk od ve vd si kd ag de ta we rC rH j is hnj hnc hlw hs0 hst2 hp5 hnr) sb0 (fun r u h => ?_)
  obtain ⟨rfl, rfl⟩ := h
  exact ⟨_, pm0, rfl, tl, tf, tc, ln, lw, ss, sx, un, en, se, tk, od, ve, vd, bo, rfl⟩
set_option maxHeartbeats 4000000 in
theorem c_X4_strike {l : Launch} {D : va_G} {cI cB cS : ClassId} {a : Nat → Nat} {tr fa : Int32} {hs sl : Nat → Int32} {g : Nat → Nat} {sc : Nat → Nat → Int32} {si : Int32} {nj nc wl s0 st nr : Nat} {kd ag de ta we rC rH : Nat → Int32} {w : va_W} (hw : CW a cI cS tr fa hs sl g sc si nj nc wl s0 st nr kd ag de ta we rC rH w) (j : Int32) (is : Int32) (hnj : nj ≤ 5) (hnc : nc ≤ 5) (hlw : wl < 64) (hs0 : s0 < 2 ^ nj) (hst2 : st < 2 ^ nj) (hp5 : 2 ^ nj ≤ 32) (hnr : nr ≤ 8) : Mi l yX4_strike cX4_strike 4 (some .int) 1 22 D cI cB cS [.ref (a 0), .int j, .int is] w (fun r u => r = trF nj st j is ∧ CW a cI cS tr fa hs sl g sc si nj nc wl s0 (trW nj st j is) nr kd ag de ta we rC rH u) := by
  obtain ⟨tl, tf, tc, ln, lw, ss, sx, un, en, se, tk, od, ve, vd, bo, rfl⟩ := hw
  refine Mi.whole (m_X4_strike a nj nc wl s0 st nr tr fa bo ln lw ss sx un en se tk od ve vd si kd ag de ta we rC rH j is hnj hnc hlw hs0 hst2 hp5 hnr) sb0 (fun r u h => ?_)
  obtain ⟨rfl, rfl⟩ := h
  exact ⟨_, pm0, rfl, tl, tf, tc, ln, lw, ss, sx, un, en, se, tk, od, ve, vd, bo, rfl⟩
set_option maxHeartbeats 4000000 in
theorem c_X4_minutes {l : Launch} {D : va_G} {cI cB cS : ClassId} {a : Nat → Nat} {tr fa : Int32} {hs sl : Nat → Int32} {g : Nat → Nat} {sc : Nat → Nat → Int32} {si : Int32} {nj nc wl s0 st nr : Nat} {kd ag de ta we rC rH : Nat → Int32} {w : va_W} (hw : CW a cI cS tr fa hs sl g sc si nj nc wl s0 st nr kd ag de ta we rC rH w) (v : Int32) (hnj : nj ≤ 5) (hnc : nc ≤ 5) (hlw : wl < 64) (hs0 : s0 < 2 ^ nj) (hst2 : st < 2 ^ nj) (hp5 : 2 ^ nj ≤ 32) (hnr : nr ≤ 8) : Mi l yX4_minutes cX4_minutes 3 (some .int) 1 20 D cI cB cS [.ref (a 0), .int v] w (fun r u => r = miF nc si v ∧ CW a cI cS tr fa hs sl g sc (miW nc si v) nj nc wl s0 st nr kd ag de ta we rC rH u) := by
  obtain ⟨tl, tf, tc, ln, lw, ss, sx, un, en, se, tk, od, ve, vd, bo, rfl⟩ := hw
  refine Mi.whole (m_X4_minutes a nj nc wl s0 st nr tr fa bo ln lw ss sx un en se tk od ve vd si kd ag de ta we rC rH v hnj hnc hlw hs0 hst2 hp5 hnr) sb0 (fun r u h => ?_)
  obtain ⟨rfl, rfl⟩ := h
  exact ⟨_, pm0, rfl, tl, tf, tc, ln, lw, ss, sx, un, en, se, tk, od, ve, vd, bo, rfl⟩
set_option maxHeartbeats 4000000 in
theorem c_X4_sitting {l : Launch} {D : va_G} {cI cB cS : ClassId} {a : Nat → Nat} {tr fa : Int32} {hs sl : Nat → Int32} {g : Nat → Nat} {sc : Nat → Nat → Int32} {si : Int32} {nj nc wl s0 st nr : Nat} {kd ag de ta we rC rH : Nat → Int32} {w : va_W} (hw : CW a cI cS tr fa hs sl g sc si nj nc wl s0 st nr kd ag de ta we rC rH w) (k : Nat) (dn : Nat → Nat) (q : Int32) (x : Int32) (i : Int32) (n : Int32) (wh : Int32) (hk : k < 4) (hg : (g k) ≤ 60) (hq : vS q → q = nI k) (hnj : nj ≤ 5) (hnc : nc ≤ 5) (hlw : wl < 64) (hs0 : s0 < 2 ^ nj) (hst2 : st < 2 ^ nj) (hp5 : 2 ^ nj ≤ 32) (hnr : nr ≤ 8) (hde : ∀ c, c < nc → de c = nI (dn c) ∧ dn c < 6) : Mi l yX4_sitting cX4_sitting 8 (some .int) 4 98 D cI cB cS [.ref (a 0), .int q, .int x, .int i, .int n, .int wh] w (fun r u => r = stF q x wh (focF (hs k) (sl k) (nI (g k)) x i n) nc (odS (fun qx => (sc k) (i.toNatClampNeg + qx)) nc n.toNatClampNeg) (sitS nj kd ag st wl dn ta we si s0 (fun px => zN ((fun qx => (sc k) (i.toNatClampNeg + qx)) px)) (n.toNatClampNeg)).1 (sitS nj kd ag st wl dn ta we si s0 (fun px => zN ((fun qx => (sc k) (i.toNatClampNeg + qx)) px)) (n.toNatClampNeg)).2.2.2.1 (sitS nj kd ag st wl dn ta we si s0 (fun px => zN ((fun qx => (sc k) (i.toNatClampNeg + qx)) px)) (n.toNatClampNeg)).2.2.2.2.1 ∧ CW a cI cS tr (stT q x wh (focF (hs k) (sl k) (nI (g k)) x i n)) hs sl g sc si nj nc wl s0 st nr kd ag de ta we rC rH u) := by
  obtain ⟨tl, tf, tc, ln, lw, ss, sx, un, en, se, tk, od, ve, vd, bo, rfl⟩ := hw
  rcases k4 hk with rfl | rfl | rfl | rfl
  · refine Mi.whole (m_X4_sitting a 0 (g 0) nj nc wl s0 st nr dn tr fa bo ln lw ss sx un en se tk od ve vd si kd ag de ta we rC rH (hs 0) (sl 0) (sc 0) q x i n wh (by decide) hg hq hnj hnc hlw hs0 hst2 hp5 hnr hde) sb6 (fun r u h => ?_)
    obtain ⟨ln_, lw_, ss_, sx_, un_, en_, se_, tk_, od_, ve_, vd_, bo_, rfl, rfl⟩ := h
    exact ⟨_, pm6, rfl, tl, tf, tc, ln_, lw_, ss_, sx_, un_, en_, se_, tk_, od_, ve_, vd_, bo_, rfl⟩
  · refine Mi.whole (m_X4_sitting a 1 (g 1) nj nc wl s0 st nr dn tr fa bo ln lw ss sx un en se tk od ve vd si kd ag de ta we rC rH (hs 1) (sl 1) (sc 1) q x i n wh (by decide) hg hq hnj hnc hlw hs0 hst2 hp5 hnr hde) sb7 (fun r u h => ?_)
    obtain ⟨ln_, lw_, ss_, sx_, un_, en_, se_, tk_, od_, ve_, vd_, bo_, rfl, rfl⟩ := h
    exact ⟨_, pm7, rfl, tl, tf, tc, ln_, lw_, ss_, sx_, un_, en_, se_, tk_, od_, ve_, vd_, bo_, rfl⟩
  · refine Mi.whole (m_X4_sitting a 2 (g 2) nj nc wl s0 st nr dn tr fa bo ln lw ss sx un en se tk od ve vd si kd ag de ta we rC rH (hs 2) (sl 2) (sc 2) q x i n wh (by decide) hg hq hnj hnc hlw hs0 hst2 hp5 hnr hde) sb8 (fun r u h => ?_)
    obtain ⟨ln_, lw_, ss_, sx_, un_, en_, se_, tk_, od_, ve_, vd_, bo_, rfl, rfl⟩ := h
    exact ⟨_, pm8, rfl, tl, tf, tc, ln_, lw_, ss_, sx_, un_, en_, se_, tk_, od_, ve_, vd_, bo_, rfl⟩
  · refine Mi.whole (m_X4_sitting a 3 (g 3) nj nc wl s0 st nr dn tr fa bo ln lw ss sx un en se tk od ve vd si kd ag de ta we rC rH (hs 3) (sl 3) (sc 3) q x i n wh (by decide) hg hq hnj hnc hlw hs0 hst2 hp5 hnr hde) sb9 (fun r u h => ?_)
    obtain ⟨ln_, lw_, ss_, sx_, un_, en_, se_, tk_, od_, ve_, vd_, bo_, rfl, rfl⟩ := h
    exact ⟨_, pm9, rfl, tl, tf, tc, ln_, lw_, ss_, sx_, un_, en_, se_, tk_, od_, ve_, vd_, bo_, rfl⟩
set_option maxHeartbeats 4000000 in
theorem c_X4_votes {l : Launch} {D : va_G} {cI cB cS : ClassId} {a : Nat → Nat} {tr fa : Int32} {hs sl : Nat → Int32} {g : Nat → Nat} {sc : Nat → Nat → Int32} {si : Int32} {nj nc wl s0 st nr : Nat} {kd ag de ta we rC rH : Nat → Int32} {w : va_W} (hw : CW a cI cS tr fa hs sl g sc si nj nc wl s0 st nr kd ag de ta we rC rH w) (dn : Nat → Nat) (c : Int32) (mi : Int32) (hnj : nj ≤ 5) (hnc : nc ≤ 5) (hlw : wl < 64) (hs0 : s0 < 2 ^ nj) (hst2 : st < 2 ^ nj) (hp5 : 2 ^ nj ≤ 32) (hnr : nr ≤ 8) (hde : ∀ c, c < nc → de c = nI (dn c) ∧ dn c < 6) : Mi l yX4_votes cX4_votes 3 (some .int) 2 49 D cI cB cS [.ref (a 0), .int c, .int mi] w (fun r u => r = vtF nj nc kd ag s0 st wl dn c mi ∧ CW a cI cS tr fa hs sl g sc si nj nc wl s0 st nr kd ag de ta we rC rH u) := by
  obtain ⟨tl, tf, tc, ln, lw, ss, sx, un, en, se, tk, od, ve, vd, bo, rfl⟩ := hw
  refine Mi.whole (m_X4_votes a nj nc wl s0 st nr dn tr fa bo ln lw ss sx un en se tk od ve vd si kd ag de ta we rC rH c mi hnj hnc hlw hs0 hst2 hp5 hnr hde) sb0 (fun r u h => ?_)
  obtain ⟨ln_, lw_, ss_, sx_, un_, en_, se_, tk_, od_, ve_, vd_, bo_, rfl, rfl⟩ := h
  exact ⟨_, pm0, rfl, tl, tf, tc, ln_, lw_, ss_, sx_, un_, en_, se_, tk_, od_, ve_, vd_, bo_, rfl⟩
set_option maxHeartbeats 4000000 in
theorem c_X4_most {l : Launch} {D : va_G} {cI cB cS : ClassId} {a : Nat → Nat} {tr fa : Int32} {hs sl : Nat → Int32} {g : Nat → Nat} {sc : Nat → Nat → Int32} {si : Int32} {nj nc wl s0 st nr : Nat} {kd ag de ta we rC rH : Nat → Int32} {w : va_W} (hw : CW a cI cS tr fa hs sl g sc si nj nc wl s0 st nr kd ag de ta we rC rH w) (dn : Nat → Nat) (k : Int32) (hnj : nj ≤ 5) (hnc : nc ≤ 5) (hlw : wl < 64) (hs0 : s0 < 2 ^ nj) (hst2 : st < 2 ^ nj) (hp5 : 2 ^ nj ≤ 32) (hnr : nr ≤ 8) (hde : ∀ c, c < nc → de c = nI (dn c) ∧ dn c < 6) (hwe : ∀ c, c < nc → 0 ≤ (we c).toInt ∧ (we c).toInt ≤ 9) : Mi l yX4_most cX4_most 2 (some .int) 6 145 D cI cB cS [.ref (a 0), .int k] w (fun r u => r = hoF (fun k => (sitS nj kd ag st wl dn ta we si s0 (prm nc k) nc).2.2.2.2.1) nc 1 k ∧ CW a cI cS tr fa hs sl g sc si nj nc wl s0 st nr kd ag de ta we rC rH u) := by
  obtain ⟨tl, tf, tc, ln, lw, ss, sx, un, en, se, tk, od, ve, vd, bo, rfl⟩ := hw
  refine Mi.whole (m_X4_most a nj nc wl s0 st nr dn tr fa bo ln lw ss sx un en se tk od ve vd si kd ag de ta we rC rH k hnj hnc hlw hs0 hst2 hp5 hnr hde hwe) sb0 (fun r u h => ?_)
  obtain ⟨ln_, lw_, ss_, sx_, un_, en_, se_, tk_, od_, ve_, vd_, bo_, rfl, rfl⟩ := h
  exact ⟨_, pm0, rfl, tl, tf, tc, ln_, lw_, ss_, sx_, un_, en_, se_, tk_, od_, ve_, vd_, bo_, rfl⟩
set_option maxHeartbeats 4000000 in
theorem c_X4_delay {l : Launch} {D : va_G} {cI cB cS : ClassId} {a : Nat → Nat} {tr fa : Int32} {hs sl : Nat → Int32} {g : Nat → Nat} {sc : Nat → Nat → Int32} {si : Int32} {nj nc wl s0 st nr : Nat} {kd ag de ta we rC rH : Nat → Int32} {w : va_W} (hw : CW a cI cS tr fa hs sl g sc si nj nc wl s0 st nr kd ag de ta we rC rH w) (dn : Nat → Nat) (k : Int32) (hnj : nj ≤ 5) (hnc : nc ≤ 5) (hlw : wl < 64) (hs0 : s0 < 2 ^ nj) (hst2 : st < 2 ^ nj) (hp5 : 2 ^ nj ≤ 32) (hnr : nr ≤ 8) (hde : ∀ c, c < nc → de c = nI (dn c) ∧ dn c < 6) (hwe : ∀ c, c < nc → 0 ≤ (we c).toInt ∧ (we c).toInt ≤ 9) : Mi l yX4_delay cX4_delay 2 (some .int) 6 145 D cI cB cS [.ref (a 0), .int k] w (fun r u => r = hoF (fun k => (sitS nj kd ag st wl dn ta we si s0 (prm nc k) nc).2.2.2.2.1) nc (-1) k ∧ CW a cI cS tr fa hs sl g sc si nj nc wl s0 st nr kd ag de ta we rC rH u) := by
  obtain ⟨tl, tf, tc, ln, lw, ss, sx, un, en, se, tk, od, ve, vd, bo, rfl⟩ := hw
  refine Mi.whole (m_X4_delay a nj nc wl s0 st nr dn tr fa bo ln lw ss sx un en se tk od ve vd si kd ag de ta we rC rH k hnj hnc hlw hs0 hst2 hp5 hnr hde hwe) sb0 (fun r u h => ?_)
  obtain ⟨ln_, lw_, ss_, sx_, un_, en_, se_, tk_, od_, ve_, vd_, bo_, rfl, rfl⟩ := h
  exact ⟨_, pm0, rfl, tl, tf, tc, ln_, lw_, ss_, sx_, un_, en_, se_, tk_, od_, ve_, vd_, bo_, rfl⟩
set_option maxHeartbeats 4000000 in
theorem c_X4_bribe {l : Launch} {D : va_G} {cI cB cS : ClassId} {a : Nat → Nat} {tr fa : Int32} {hs sl : Nat → Int32} {g : Nat → Nat} {sc : Nat → Nat → Int32} {si : Int32} {nj nc wl s0 st nr : Nat} {kd ag de ta we rC rH : Nat → Int32} {w : va_W} (hw : CW a cI cS tr fa hs sl g sc si nj nc wl s0 st nr kd ag de ta we rC rH w) (k : Nat) (dn : Nat → Nat) (c : Int32) (q : Int32) (x : Int32) (i : Int32) (n : Int32) (hk : k < 4) (hg : (g k) ≤ 60) (hq : vS q → q = nI k) (hnj : nj ≤ 5) (hnc : nc ≤ 5) (hlw : wl < 64) (hs0 : s0 < 2 ^ nj) (hst2 : st < 2 ^ nj) (hp5 : 2 ^ nj ≤ 32) (hnr : nr ≤ 8) (hde : ∀ c, c < nc → de c = nI (dn c) ∧ dn c < 6) : Mi l yX4_bribe cX4_bribe 7 (some .int) 5 122 D cI cB cS [.ref (a 0), .int c, .int q, .int x, .int i, .int n] w (fun r u => r = brF c q x (focF (hs k) (sl k) (nI (g k)) x i n) nc (odS (fun qx => (sc k) (i.toNatClampNeg + qx)) nc n.toNatClampNeg) (fun cx => fsF (fun y => decide ((sitS nj kd ag st wl dn ta we si (s0 ||| y) (fun px => zN ((fun qx => (sc k) (i.toNatClampNeg + qx)) px)) (n.toNatClampNeg)).1 cx = 1)) s0 (2 ^ nj)) ∧ CW a cI cS tr (brT c q x (focF (hs k) (sl k) (nI (g k)) x i n) nc) hs sl g sc si nj nc wl s0 st nr kd ag de ta we rC rH u) := by
  obtain ⟨tl, tf, tc, ln, lw, ss, sx, un, en, se, tk, od, ve, vd, bo, rfl⟩ := hw
  rcases k4 hk with rfl | rfl | rfl | rfl
  · refine Mi.whole (m_X4_bribe a 0 (g 0) nj nc wl s0 st nr dn tr fa bo ln lw ss sx un en se tk od ve vd si kd ag de ta we rC rH (hs 0) (sl 0) (sc 0) c q x i n (by decide) hg hq hnj hnc hlw hs0 hst2 hp5 hnr hde) sb6 (fun r u h => ?_)
    obtain ⟨ln_, lw_, ss_, sx_, un_, en_, se_, tk_, od_, ve_, vd_, bo_, rfl, rfl⟩ := h
    exact ⟨_, pm6, rfl, tl, tf, tc, ln_, lw_, ss_, sx_, un_, en_, se_, tk_, od_, ve_, vd_, bo_, rfl⟩
  · refine Mi.whole (m_X4_bribe a 1 (g 1) nj nc wl s0 st nr dn tr fa bo ln lw ss sx un en se tk od ve vd si kd ag de ta we rC rH (hs 1) (sl 1) (sc 1) c q x i n (by decide) hg hq hnj hnc hlw hs0 hst2 hp5 hnr hde) sb7 (fun r u h => ?_)
    obtain ⟨ln_, lw_, ss_, sx_, un_, en_, se_, tk_, od_, ve_, vd_, bo_, rfl, rfl⟩ := h
    exact ⟨_, pm7, rfl, tl, tf, tc, ln_, lw_, ss_, sx_, un_, en_, se_, tk_, od_, ve_, vd_, bo_, rfl⟩
  · refine Mi.whole (m_X4_bribe a 2 (g 2) nj nc wl s0 st nr dn tr fa bo ln lw ss sx un en se tk od ve vd si kd ag de ta we rC rH (hs 2) (sl 2) (sc 2) c q x i n (by decide) hg hq hnj hnc hlw hs0 hst2 hp5 hnr hde) sb8 (fun r u h => ?_)
    obtain ⟨ln_, lw_, ss_, sx_, un_, en_, se_, tk_, od_, ve_, vd_, bo_, rfl, rfl⟩ := h
    exact ⟨_, pm8, rfl, tl, tf, tc, ln_, lw_, ss_, sx_, un_, en_, se_, tk_, od_, ve_, vd_, bo_, rfl⟩
  · refine Mi.whole (m_X4_bribe a 3 (g 3) nj nc wl s0 st nr dn tr fa bo ln lw ss sx un en se tk od ve vd si kd ag de ta we rC rH (hs 3) (sl 3) (sc 3) c q x i n (by decide) hg hq hnj hnc hlw hs0 hst2 hp5 hnr hde) sb9 (fun r u h => ?_)
    obtain ⟨ln_, lw_, ss_, sx_, un_, en_, se_, tk_, od_, ve_, vd_, bo_, rfl, rfl⟩ := h
    exact ⟨_, pm9, rfl, tl, tf, tc, ln_, lw_, ss_, sx_, un_, en_, se_, tk_, od_, ve_, vd_, bo_, rfl⟩
set_option maxHeartbeats 4000000 in
theorem c_X4_strikes {l : Launch} {D : va_G} {cI cB cS : ClassId} {a : Nat → Nat} {tr fa : Int32} {hs sl : Nat → Int32} {g : Nat → Nat} {sc : Nat → Nat → Int32} {si : Int32} {nj nc wl s0 st nr : Nat} {kd ag de ta we rC rH : Nat → Int32} {w : va_W} (hw : CW a cI cS tr fa hs sl g sc si nj nc wl s0 st nr kd ag de ta we rC rH w) (dn : Nat → Nat) (x : Int32) (hnj : nj ≤ 5) (hnc : nc ≤ 5) (hlw : wl < 64) (hs0 : s0 < 2 ^ nj) (hst2 : st < 2 ^ nj) (hp5 : 2 ^ nj ≤ 32) (hnr : nr ≤ 8) (hde : ∀ c, c < nc → de c = nI (dn c) ∧ dn c < 6) : Mi l yX4_strikes cX4_strikes 6 (some .int) 6 142 D cI cB cS [.ref (a 0), .int x] w (fun r u => r = skF nj nc (fun y => (sitS nj kd ag y wl dn ta we si s0 (fun p => p) nc).2.2.2.2.1) st x ∧ CW a cI cS tr fa hs sl g sc si nj nc wl s0 st nr kd ag de ta we rC rH u) := by
  obtain ⟨tl, tf, tc, ln, lw, ss, sx, un, en, se, tk, od, ve, vd, bo, rfl⟩ := hw
  refine Mi.whole (m_X4_strikes a nj nc wl s0 st nr dn tr fa bo ln lw ss sx un en se tk od ve vd si kd ag de ta we rC rH x hnj hnc hlw hs0 hst2 hp5 hnr hde) sb0 (fun r u h => ?_)
  obtain ⟨ln_, lw_, ss_, sx_, un_, en_, se_, tk_, od_, ve_, vd_, bo_, rfl, rfl⟩ := h
  exact ⟨_, pm0, rfl, tl, tf, tc, ln_, lw_, ss_, sx_, un_, en_, se_, tk_, od_, ve_, vd_, bo_, rfl⟩
set_option maxHeartbeats 4000000 in
theorem c_X4_worth {l : Launch} {D : va_G} {cI cB cS : ClassId} {a : Nat → Nat} {tr fa : Int32} {hs sl : Nat → Int32} {g : Nat → Nat} {sc : Nat → Nat → Int32} {si : Int32} {nj nc wl s0 st nr : Nat} {kd ag de ta we rC rH : Nat → Int32} {w : va_W} (hw : CW a cI cS tr fa hs sl g sc si nj nc wl s0 st nr kd ag de ta we rC rH w) (dn : Nat → Nat) (j : Int32) (hnj : nj ≤ 5) (hnc : nc ≤ 5) (hlw : wl < 64) (hs0 : s0 < 2 ^ nj) (hst2 : st < 2 ^ nj) (hp5 : 2 ^ nj ≤ 32) (hnr : nr ≤ 8) (hde : ∀ c, c < nc → de c = nI (dn c) ∧ dn c < 6) : Mi l yX4_worth cX4_worth 4 (some .int) 5 119 D cI cB cS [.ref (a 0), .int j] w (fun r u => r = woF nj (fun y => (sitS nj kd ag y wl dn ta we si s0 (fun p => p) nc).2.2.2.2.1) st j ∧ CW a cI cS tr fa hs sl g sc si nj nc wl s0 st nr kd ag de ta we rC rH u) := by
  obtain ⟨tl, tf, tc, ln, lw, ss, sx, un, en, se, tk, od, ve, vd, bo, rfl⟩ := hw
  refine Mi.whole (m_X4_worth a nj nc wl s0 st nr dn tr fa bo ln lw ss sx un en se tk od ve vd si kd ag de ta we rC rH j hnj hnc hlw hs0 hst2 hp5 hnr hde) sb0 (fun r u h => ?_)
  obtain ⟨ln_, lw_, ss_, sx_, un_, en_, se_, tk_, od_, ve_, vd_, bo_, rfl, rfl⟩ := h
  exact ⟨_, pm0, rfl, tl, tf, tc, ln_, lw_, ss_, sx_, un_, en_, se_, tk_, od_, ve_, vd_, bo_, rfl⟩
set_option maxHeartbeats 4000000 in
theorem c_X4_reading {l : Launch} {D : va_G} {cI cB cS : ClassId} {a : Nat → Nat} {tr fa : Int32} {hs sl : Nat → Int32} {g : Nat → Nat} {sc : Nat → Nat → Int32} {si : Int32} {nj nc wl s0 st nr : Nat} {kd ag de ta we rC rH : Nat → Int32} {w : va_W} (hw : CW a cI cS tr fa hs sl g sc si nj nc wl s0 st nr kd ag de ta we rC rH w) (c : Int32) (h : Int32) (hnj : nj ≤ 5) (hnc : nc ≤ 5) (hlw : wl < 64) (hs0 : s0 < 2 ^ nj) (hst2 : st < 2 ^ nj) (hp5 : 2 ^ nj ≤ 32) (hnr : nr ≤ 8) : Mi l yX4_reading cX4_reading 4 (some .int) 1 21 D cI cB cS [.ref (a 0), .int c, .int h] w (fun r u => r = rdF nc nr c h ∧ CW a cI cS tr fa hs sl g sc si nj nc wl s0 st (rdN nc nr c h) kd ag de ta we (rdC nc nr rC c h c) (rdC nc nr rH c h h) u) := by
  obtain ⟨tl, tf, tc, ln, lw, ss, sx, un, en, se, tk, od, ve, vd, bo, rfl⟩ := hw
  refine Mi.whole (m_X4_reading a nj nc wl s0 st nr tr fa bo ln lw ss sx un en se tk od ve vd si kd ag de ta we rC rH c h hnj hnc hlw hs0 hst2 hp5 hnr) sb0 (fun r u h => ?_)
  obtain ⟨rfl, rfl⟩ := h
  exact ⟨_, pm0, rfl, tl, tf, tc, ln, lw, ss, sx, un, en, se, tk, od, ve, vd, bo, rfl⟩
set_option maxHeartbeats 4000000 in
theorem c_X4_back {l : Launch} {D : va_G} {cI cB cS : ClassId} {a : Nat → Nat} {tr fa : Int32} {hs sl : Nat → Int32} {g : Nat → Nat} {sc : Nat → Nat → Int32} {si : Int32} {nj nc wl s0 st nr : Nat} {kd ag de ta we rC rH : Nat → Int32} {w : va_W} (hw : CW a cI cS tr fa hs sl g sc si nj nc wl s0 st nr kd ag de ta we rC rH w) (k : Int32) (hnj : nj ≤ 5) (hnc : nc ≤ 5) (hlw : wl < 64) (hs0 : s0 < 2 ^ nj) (hst2 : st < 2 ^ nj) (hp5 : 2 ^ nj ≤ 32) (hnr : nr ≤ 8) : Mi l yX4_back cX4_back 2 (some .int) 0 0 D cI cB cS [.ref (a 0), .int k] w (fun r u => r = bkF nr k ∧ CW a cI cS tr fa hs sl g sc si nj nc wl s0 st (bkN nr k) kd ag de ta we rC rH u) := by
  obtain ⟨tl, tf, tc, ln, lw, ss, sx, un, en, se, tk, od, ve, vd, bo, rfl⟩ := hw
  refine Mi.whole (m_X4_back a nj nc wl s0 st nr tr fa bo ln lw ss sx un en se tk od ve vd si kd ag de ta we rC rH k hnj hnc hlw hs0 hst2 hp5 hnr) sb0 (fun r u h => ?_)
  obtain ⟨rfl, rfl⟩ := h
  exact ⟨_, pm0, rfl, tl, tf, tc, ln, lw, ss, sx, un, en, se, tk, od, ve, vd, bo, rfl⟩
set_option maxHeartbeats 4000000 in
theorem c_X4_codes {l : Launch} {D : va_G} {cI cB cS : ClassId} {a : Nat → Nat} {tr fa : Int32} {hs sl : Nat → Int32} {g : Nat → Nat} {sc : Nat → Nat → Int32} {si : Int32} {nj nc wl s0 st nr : Nat} {kd ag de ta we rC rH : Nat → Int32} {w : va_W} (hw : CW a cI cS tr fa hs sl g sc si nj nc wl s0 st nr kd ag de ta we rC rH w) (dn : Nat → Nat) (rn : Nat → Nat) (x : Int32) (hnj : nj ≤ 5) (hnc : nc ≤ 5) (hlw : wl < 64) (hs0 : s0 < 2 ^ nj) (hst2 : st < 2 ^ nj) (hp5 : 2 ^ nj ≤ 32) (hnr : nr ≤ 8) (hde : ∀ c, c < nc → de c = nI (dn c) ∧ dn c < 6) (hrc : ∀ q, q < nr → rC q = nI (rn q) ∧ rn q < nc) : Mi l yX4_codes cX4_codes 6 (some .int) 5 119 D cI cB cS [.ref (a 0), .int x] w (fun r u => r = cdF nc (fun yx => arB (sitS nj kd ag st yx dn ta we si s0 (fun p => p) nc).1 rn rH nr) x ∧ CW a cI cS tr fa hs sl g sc si nj nc wl s0 st nr kd ag de ta we rC rH u) := by
  obtain ⟨tl, tf, tc, ln, lw, ss, sx, un, en, se, tk, od, ve, vd, bo, rfl⟩ := hw
  refine Mi.whole (m_X4_codes a nj nc wl s0 st nr dn rn tr fa bo ln lw ss sx un en se tk od ve vd si kd ag de ta we rC rH x hnj hnc hlw hs0 hst2 hp5 hnr hde hrc) sb0 (fun r u h => ?_)
  obtain ⟨ln_, lw_, ss_, sx_, un_, en_, se_, tk_, od_, ve_, vd_, bo_, rfl, rfl⟩ := h
  exact ⟨_, pm0, rfl, tl, tf, tc, ln_, lw_, ss_, sx_, un_, en_, se_, tk_, od_, ve_, vd_, bo_, rfl⟩
set_option maxHeartbeats 4000000 in
theorem c_X4_kinds {l : Launch} {D : va_G} {cI cB cS : ClassId} {a : Nat → Nat} {tr fa : Int32} {hs sl : Nat → Int32} {g : Nat → Nat} {sc : Nat → Nat → Int32} {si : Int32} {nj nc wl s0 st nr : Nat} {kd ag de ta we rC rH : Nat → Int32} {w : va_W} (hw : CW a cI cS tr fa hs sl g sc si nj nc wl s0 st nr kd ag de ta we rC rH w) (dn : Nat → Nat) (rn : Nat → Nat) (j : Int32) (hnj : nj ≤ 5) (hnc : nc ≤ 5) (hlw : wl < 64) (hs0 : s0 < 2 ^ nj) (hst2 : st < 2 ^ nj) (hp5 : 2 ^ nj ≤ 32) (hnr : nr ≤ 8) (hde : ∀ c, c < nc → de c = nI (dn c) ∧ dn c < 6) (hrc : ∀ q, q < nr → rC q = nI (rn q) ∧ rn q < nc) : Mi l yX4_kinds cX4_kinds 4 (some .int) 5 119 D cI cB cS [.ref (a 0), .int j] w (fun r u => r = kiF nj (fun jx kx => arB (sitS nj (upd kd jx (nI kx)) ag st wl dn ta we si s0 (fun p => p) nc).1 rn rH nr) j ∧ CW a cI cS tr fa hs sl g sc si nj nc wl s0 st nr kd ag de ta we rC rH u) := by
  obtain ⟨tl, tf, tc, ln, lw, ss, sx, un, en, se, tk, od, ve, vd, bo, rfl⟩ := hw
  refine Mi.whole (m_X4_kinds a nj nc wl s0 st nr dn rn tr fa bo ln lw ss sx un en se tk od ve vd si kd ag de ta we rC rH j hnj hnc hlw hs0 hst2 hp5 hnr hde hrc) sb0 (fun r u h => ?_)
  obtain ⟨ln_, lw_, ss_, sx_, un_, en_, se_, tk_, od_, ve_, vd_, bo_, rfl, rfl⟩ := h
  exact ⟨_, pm0, rfl, tl, tf, tc, ln_, lw_, ss_, sx_, un_, en_, se_, tk_, od_, ve_, vd_, bo_, rfl⟩
set_option maxHeartbeats 4000000 in
theorem c_X4_treated {l : Launch} {D : va_G} {cI cB cS : ClassId} {a : Nat → Nat} {tr fa : Int32} {hs sl : Nat → Int32} {g : Nat → Nat} {sc : Nat → Nat → Int32} {si : Int32} {nj nc wl s0 st nr : Nat} {kd ag de ta we rC rH : Nat → Int32} {w : va_W} (hw : CW a cI cS tr fa hs sl g sc si nj nc wl s0 st nr kd ag de ta we rC rH w) (dn : Nat → Nat) (rn : Nat → Nat) (hnj : nj ≤ 5) (hnc : nc ≤ 5) (hlw : wl < 64) (hs0 : s0 < 2 ^ nj) (hst2 : st < 2 ^ nj) (hp5 : 2 ^ nj ≤ 32) (hnr : nr ≤ 8) (hde : ∀ c, c < nc → de c = nI (dn c) ∧ dn c < 6) (hrc : ∀ q, q < nr → rC q = nI (rn q) ∧ rn q < nc) : Mi l yX4_treated cX4_treated 3 (some .int) 5 119 D cI cB cS [.ref (a 0)] w (fun r u => r = teF nj nc (fun jx => arB (sitS nj kd ag st wl dn ta we si (set1 s0 jx) (fun p => p) nc).1 rn rH nr) ∧ CW a cI cS tr fa hs sl g sc si nj nc wl s0 st nr kd ag de ta we rC rH u) := by
  obtain ⟨tl, tf, tc, ln, lw, ss, sx, un, en, se, tk, od, ve, vd, bo, rfl⟩ := hw
  refine Mi.whole (m_X4_treated a nj nc wl s0 st nr dn rn tr fa bo ln lw ss sx un en se tk od ve vd si kd ag de ta we rC rH hnj hnc hlw hs0 hst2 hp5 hnr hde hrc) sb0 (fun r u h => ?_)
  obtain ⟨ln_, lw_, ss_, sx_, un_, en_, se_, tk_, od_, ve_, vd_, bo_, rfl, rfl⟩ := h
  exact ⟨_, pm0, rfl, tl, tf, tc, ln_, lw_, ss_, sx_, un_, en_, se_, tk_, od_, ve_, vd_, bo_, rfl⟩
set_option maxHeartbeats 4000000 in
theorem c_X4_odds {l : Launch} {D : va_G} {cI cB cS : ClassId} {a : Nat → Nat} {tr fa : Int32} {hs sl : Nat → Int32} {g : Nat → Nat} {sc : Nat → Nat → Int32} {si : Int32} {nj nc wl s0 st nr : Nat} {kd ag de ta we rC rH : Nat → Int32} {w : va_W} (hw : CW a cI cS tr fa hs sl g sc si nj nc wl s0 st nr kd ag de ta we rC rH w) (dn : Nat → Nat) (c : Int32) (x : Int32) (hnj : nj ≤ 5) (hnc : nc ≤ 5) (hlw : wl < 64) (hs0 : s0 < 2 ^ nj) (hst2 : st < 2 ^ nj) (hp5 : 2 ^ nj ≤ 32) (hnr : nr ≤ 8) (hde : ∀ c, c < nc → de c = nI (dn c) ∧ dn c < 6) : Ml l yX4_odds cX4_odds 6 4 98 D cI cB cS [.ref (a 0), .int c, .int x] w (fun r u => r = odF nj nc (fun cx yx => decide ((sitS nj kd ag yx wl dn ta we si s0 (fun p => p) nc).1 cx = 1)) c x ∧ CW a cI cS tr fa hs sl g sc si nj nc wl s0 st nr kd ag de ta we rC rH u) := by
  obtain ⟨tl, tf, tc, ln, lw, ss, sx, un, en, se, tk, od, ve, vd, bo, rfl⟩ := hw
  refine Ml.whole (m_X4_odds a nj nc wl s0 st nr dn tr fa bo ln lw ss sx un en se tk od ve vd si kd ag de ta we rC rH c x hnj hnc hlw hs0 hst2 hp5 hnr hde) sb0 (fun r u h => ?_)
  obtain ⟨ln_, lw_, ss_, sx_, un_, en_, se_, tk_, od_, ve_, vd_, bo_, rfl, rfl⟩ := h
  exact ⟨_, pm0, rfl, tl, tf, tc, ln_, lw_, ss_, sx_, un_, en_, se_, tk_, od_, ve_, vd_, bo_, rfl⟩
set_option maxHeartbeats 4000000 in
theorem c_X4_sheet {l : Launch} {D : va_G} {cI cB cS : ClassId} {a : Nat → Nat} {tr fa : Int32} {hs sl : Nat → Int32} {g : Nat → Nat} {sc : Nat → Nat → Int32} {si : Int32} {nj nc wl s0 st nr : Nat} {kd ag de ta we rC rH : Nat → Int32} {w : va_W} (hw : CW a cI cS tr fa hs sl g sc si nj nc wl s0 st nr kd ag de ta we rC rH w) (k : Nat) (q : Int32) (x : Int32) (n : Int32) (hk : k < 4) (hg : (g k) ≤ 60) (hq : vS q → q = nI k) : Mi l yX4_sheet cX4_sheet 4 (some .int) 2 45 D cI cB cS [.ref (a 0), .int q, .int x, .int n] w (fun r u => r = shF q x n ∧ CW a cI cS tr (shT q x n) (va_up hs k (if shOk q x n then 1 else (hs k))) (va_up sl k (if shOk q x n then x else (sl k))) (va_up g k (if shOk q x n then zN n else (g k))) (va_up sc k (if shOk q x n then (fun _ => 0) else (sc k))) si nj nc wl s0 st nr kd ag de ta we rC rH u) := by
  obtain ⟨tl, tf, tc, ln, lw, ss, sx, un, en, se, tk, od, ve, vd, bo, rfl⟩ := hw
  rcases k4 hk with rfl | rfl | rfl | rfl
  · refine Mi.whole (m_X4_sheet a 0 (g 0) tr fa (hs 0) (sl 0) (sc 0) q x n (by decide) hg hq) sb16 (fun r u h => ?_)
    obtain ⟨rfl, rfl⟩ := h
    exact ⟨_, pm16, rfl, tl, tf, tc, ln, lw, ss, sx, un, en, se, tk, od, ve, vd, bo, rfl⟩
  · refine Mi.whole (m_X4_sheet a 1 (g 1) tr fa (hs 1) (sl 1) (sc 1) q x n (by decide) hg hq) sb17 (fun r u h => ?_)
    obtain ⟨rfl, rfl⟩ := h
    exact ⟨_, pm17, rfl, tl, tf, tc, ln, lw, ss, sx, un, en, se, tk, od, ve, vd, bo, rfl⟩
  · refine Mi.whole (m_X4_sheet a 2 (g 2) tr fa (hs 2) (sl 2) (sc 2) q x n (by decide) hg hq) sb18 (fun r u h => ?_)
    obtain ⟨rfl, rfl⟩ := h
    exact ⟨_, pm18, rfl, tl, tf, tc, ln, lw, ss, sx, un, en, se, tk, od, ve, vd, bo, rfl⟩
  · refine Mi.whole (m_X4_sheet a 3 (g 3) tr fa (hs 3) (sl 3) (sc 3) q x n (by decide) hg hq) sb19 (fun r u h => ?_)
    obtain ⟨rfl, rfl⟩ := h
    exact ⟨_, pm19, rfl, tl, tf, tc, ln, lw, ss, sx, un, en, se, tk, od, ve, vd, bo, rfl⟩
set_option maxHeartbeats 4000000 in
theorem c_X4_lose {l : Launch} {D : va_G} {cI cB cS : ClassId} {a : Nat → Nat} {tr fa : Int32} {hs sl : Nat → Int32} {g : Nat → Nat} {sc : Nat → Nat → Int32} {si : Int32} {nj nc wl s0 st nr : Nat} {kd ag de ta we rC rH : Nat → Int32} {w : va_W} (hw : CW a cI cS tr fa hs sl g sc si nj nc wl s0 st nr kd ag de ta we rC rH w) (k : Nat) (q : Int32) (hk : k < 4) (hg : (g k) ≤ 60) (hq : vS q → q = nI k) : Mi l yX4_lose cX4_lose 3 (some .int) 1 20 D cI cB cS [.ref (a 0), .int q] w (fun r u => r = loF q (hs k) ∧ CW a cI cS tr fa (va_up hs k (if vS q then 0 else (hs k))) sl g sc si nj nc wl s0 st nr kd ag de ta we rC rH u) := by
  obtain ⟨tl, tf, tc, ln, lw, ss, sx, un, en, se, tk, od, ve, vd, bo, rfl⟩ := hw
  rcases k4 hk with rfl | rfl | rfl | rfl
  · refine Mi.whole (m_X4_lose a 0 (g 0) tr fa (hs 0) (sl 0) (sc 0) q (by decide) hg hq) sb16 (fun r u h => ?_)
    obtain ⟨rfl, rfl⟩ := h
    exact ⟨_, pm16, rfl, tl, tf, tc, ln, lw, ss, sx, un, en, se, tk, od, ve, vd, bo, rfl⟩
  · refine Mi.whole (m_X4_lose a 1 (g 1) tr fa (hs 1) (sl 1) (sc 1) q (by decide) hg hq) sb17 (fun r u h => ?_)
    obtain ⟨rfl, rfl⟩ := h
    exact ⟨_, pm17, rfl, tl, tf, tc, ln, lw, ss, sx, un, en, se, tk, od, ve, vd, bo, rfl⟩
  · refine Mi.whole (m_X4_lose a 2 (g 2) tr fa (hs 2) (sl 2) (sc 2) q (by decide) hg hq) sb18 (fun r u h => ?_)
    obtain ⟨rfl, rfl⟩ := h
    exact ⟨_, pm18, rfl, tl, tf, tc, ln, lw, ss, sx, un, en, se, tk, od, ve, vd, bo, rfl⟩
  · refine Mi.whole (m_X4_lose a 3 (g 3) tr fa (hs 3) (sl 3) (sc 3) q (by decide) hg hq) sb19 (fun r u h => ?_)
    obtain ⟨rfl, rfl⟩ := h
    exact ⟨_, pm19, rfl, tl, tf, tc, ln, lw, ss, sx, un, en, se, tk, od, ve, vd, bo, rfl⟩
set_option maxHeartbeats 4000000 in
theorem c_X4_put {l : Launch} {D : va_G} {cI cB cS : ClassId} {a : Nat → Nat} {tr fa : Int32} {hs sl : Nat → Int32} {g : Nat → Nat} {sc : Nat → Nat → Int32} {si : Int32} {nj nc wl s0 st nr : Nat} {kd ag de ta we rC rH : Nat → Int32} {w : va_W} (hw : CW a cI cS tr fa hs sl g sc si nj nc wl s0 st nr kd ag de ta we rC rH w) (k : Nat) (q : Int32) (i : Int32) (v : Int32) (hk : k < 4) (hg : (g k) ≤ 60) (hq : vS q → q = nI k) : Mi l yX4_put cX4_put 5 (some .int) 1 21 D cI cB cS [.ref (a 0), .int q, .int i, .int v] w (fun r u => r = puF q (hs k) (g k) i ∧ CW a cI cS tr (puT q (hs k) (g k) i) hs sl g (va_up sc k (if puOk q (hs k) (g k) i then upd (sc k) (zN i) (cutF (sl k) v) else (sc k))) si nj nc wl s0 st nr kd ag de ta we rC rH u) := by
  obtain ⟨tl, tf, tc, ln, lw, ss, sx, un, en, se, tk, od, ve, vd, bo, rfl⟩ := hw
  rcases k4 hk with rfl | rfl | rfl | rfl
  · refine Mi.whole (m_X4_put a 0 (g 0) tr fa (hs 0) (sl 0) (sc 0) q i v (by decide) hg hq) sb16 (fun r u h => ?_)
    obtain ⟨rfl, rfl⟩ := h
    exact ⟨_, pm16, rfl, tl, tf, tc, ln, lw, ss, sx, un, en, se, tk, od, ve, vd, bo, rfl⟩
  · refine Mi.whole (m_X4_put a 1 (g 1) tr fa (hs 1) (sl 1) (sc 1) q i v (by decide) hg hq) sb17 (fun r u h => ?_)
    obtain ⟨rfl, rfl⟩ := h
    exact ⟨_, pm17, rfl, tl, tf, tc, ln, lw, ss, sx, un, en, se, tk, od, ve, vd, bo, rfl⟩
  · refine Mi.whole (m_X4_put a 2 (g 2) tr fa (hs 2) (sl 2) (sc 2) q i v (by decide) hg hq) sb18 (fun r u h => ?_)
    obtain ⟨rfl, rfl⟩ := h
    exact ⟨_, pm18, rfl, tl, tf, tc, ln, lw, ss, sx, un, en, se, tk, od, ve, vd, bo, rfl⟩
  · refine Mi.whole (m_X4_put a 3 (g 3) tr fa (hs 3) (sl 3) (sc 3) q i v (by decide) hg hq) sb19 (fun r u h => ?_)
    obtain ⟨rfl, rfl⟩ := h
    exact ⟨_, pm19, rfl, tl, tf, tc, ln, lw, ss, sx, un, en, se, tk, od, ve, vd, bo, rfl⟩
set_option maxHeartbeats 4000000 in
theorem c_X4_cell {l : Launch} {D : va_G} {cI cB cS : ClassId} {a : Nat → Nat} {tr fa : Int32} {hs sl : Nat → Int32} {g : Nat → Nat} {sc : Nat → Nat → Int32} {si : Int32} {nj nc wl s0 st nr : Nat} {kd ag de ta we rC rH : Nat → Int32} {w : va_W} (hw : CW a cI cS tr fa hs sl g sc si nj nc wl s0 st nr kd ag de ta we rC rH w) (k : Nat) (q : Int32) (i : Int32) (x : Int32) (hk : k < 4) (hg : (g k) ≤ 60) (hq : vS q → q = nI k) : Ml l yX4_cell cX4_cell 6 1 21 D cI cB cS [.ref (a 0), .int q, .int i, .int x] w (fun r u => r = ceF q (hs k) (sl k) (g k) (sc k) i x ∧ CW a cI cS tr (ceT q (hs k) (sl k) (g k) i x) hs sl g sc si nj nc wl s0 st nr kd ag de ta we rC rH u) := by
  obtain ⟨tl, tf, tc, ln, lw, ss, sx, un, en, se, tk, od, ve, vd, bo, rfl⟩ := hw
  rcases k4 hk with rfl | rfl | rfl | rfl
  · refine Ml.whole (m_X4_cell a 0 (g 0) tr fa (hs 0) (sl 0) (sc 0) q i x (by decide) hg hq) sb16 (fun r u h => ?_)
    obtain ⟨rfl, rfl⟩ := h
    exact ⟨_, pm16, rfl, tl, tf, tc, ln, lw, ss, sx, un, en, se, tk, od, ve, vd, bo, rfl⟩
  · refine Ml.whole (m_X4_cell a 1 (g 1) tr fa (hs 1) (sl 1) (sc 1) q i x (by decide) hg hq) sb17 (fun r u h => ?_)
    obtain ⟨rfl, rfl⟩ := h
    exact ⟨_, pm17, rfl, tl, tf, tc, ln, lw, ss, sx, un, en, se, tk, od, ve, vd, bo, rfl⟩
  · refine Ml.whole (m_X4_cell a 2 (g 2) tr fa (hs 2) (sl 2) (sc 2) q i x (by decide) hg hq) sb18 (fun r u h => ?_)
    obtain ⟨rfl, rfl⟩ := h
    exact ⟨_, pm18, rfl, tl, tf, tc, ln, lw, ss, sx, un, en, se, tk, od, ve, vd, bo, rfl⟩
  · refine Ml.whole (m_X4_cell a 3 (g 3) tr fa (hs 3) (sl 3) (sc 3) q i x (by decide) hg hq) sb19 (fun r u h => ?_)
    obtain ⟨rfl, rfl⟩ := h
    exact ⟨_, pm19, rfl, tl, tf, tc, ln, lw, ss, sx, un, en, se, tk, od, ve, vd, bo, rfl⟩
set_option maxHeartbeats 4000000 in
theorem c_X4_copyD {l : Launch} {D : va_G} {cI cB cS : ClassId} {a : Nat → Nat} {tr fa : Int32} {hs sl : Nat → Int32} {g : Nat → Nat} {sc : Nat → Nat → Int32} {si : Int32} {nj nc wl s0 st nr : Nat} {kd ag de ta we rC rH : Nat → Int32} {w : va_W} (hw : CW a cI cS tr fa hs sl g sc si nj nc wl s0 st nr kd ag de ta we rC rH w) (k : Nat) (k2 : Nat) (q : Int32) (i : Int32) (q2 : Int32) (j : Int32) (n : Int32) (hk : k < 4) (hg : (g k) ≤ 60) (hq : vS q → q = nI k) (hk2 : k2 < 4) (hg2 : (g k2) ≤ 60) (hqq : vS q2 → q2 = nI k2) (hne : k ≠ k2) : Mi l yX4_copy cX4_copy 8 (some .int) 1 26 D cI cB cS [.ref (a 0), .int q, .int i, .int q2, .int j, .int n] w (fun r u => r = cyF q q2 (hs k) (hs k2) (sl k) (sl k2) (g k) (g k2) i j n ∧ CW a cI cS tr (cyT q q2 (hs k) (hs k2) (sl k) (sl k2) (g k) (g k2) i j n) hs sl g (va_up sc k2 (if cyOk q q2 (hs k) (hs k2) (sl k) (sl k2) (g k) (g k2) i j n then va_cpy (sc k) (sc k2) (zN i) (zN j) (zN n) else (sc k2))) si nj nc wl s0 st nr kd ag de ta we rC rH u) := by
  obtain ⟨tl, tf, tc, ln, lw, ss, sx, un, en, se, tk, od, ve, vd, bo, rfl⟩ := hw
  rcases k4 hk with rfl | rfl | rfl | rfl <;> rcases k4 hk2 with rfl | rfl | rfl | rfl
  · exact absurd rfl hne
  · refine Mi.whole (m_X4_copyD a 0 (g 0) 1 (g 1) tr fa (hs 0) (sl 0) (sc 0) (hs 1) (sl 1) (sc 1) q i q2 j n (by decide) hg hq (by decide) hg2 hqq) sb21 (fun r u h => ?_)
    obtain ⟨rfl, rfl⟩ := h
    exact ⟨_, pm21, rfl, tl, tf, tc, ln, lw, ss, sx, un, en, se, tk, od, ve, vd, bo, rfl⟩
  · refine Mi.whole (m_X4_copyD a 0 (g 0) 2 (g 2) tr fa (hs 0) (sl 0) (sc 0) (hs 2) (sl 2) (sc 2) q i q2 j n (by decide) hg hq (by decide) hg2 hqq) sb22 (fun r u h => ?_)
    obtain ⟨rfl, rfl⟩ := h
    exact ⟨_, pm22, rfl, tl, tf, tc, ln, lw, ss, sx, un, en, se, tk, od, ve, vd, bo, rfl⟩
  · refine Mi.whole (m_X4_copyD a 0 (g 0) 3 (g 3) tr fa (hs 0) (sl 0) (sc 0) (hs 3) (sl 3) (sc 3) q i q2 j n (by decide) hg hq (by decide) hg2 hqq) sb23 (fun r u h => ?_)
    obtain ⟨rfl, rfl⟩ := h
    exact ⟨_, pm23, rfl, tl, tf, tc, ln, lw, ss, sx, un, en, se, tk, od, ve, vd, bo, rfl⟩
  · refine Mi.whole (m_X4_copyD a 1 (g 1) 0 (g 0) tr fa (hs 1) (sl 1) (sc 1) (hs 0) (sl 0) (sc 0) q i q2 j n (by decide) hg hq (by decide) hg2 hqq) sb24 (fun r u h => ?_)
    obtain ⟨rfl, rfl⟩ := h
    exact ⟨_, pm24, rfl, tl, tf, tc, ln, lw, ss, sx, un, en, se, tk, od, ve, vd, bo, rfl⟩
  · exact absurd rfl hne
  · refine Mi.whole (m_X4_copyD a 1 (g 1) 2 (g 2) tr fa (hs 1) (sl 1) (sc 1) (hs 2) (sl 2) (sc 2) q i q2 j n (by decide) hg hq (by decide) hg2 hqq) sb25 (fun r u h => ?_)
    obtain ⟨rfl, rfl⟩ := h
    exact ⟨_, pm25, rfl, tl, tf, tc, ln, lw, ss, sx, un, en, se, tk, od, ve, vd, bo, rfl⟩
  · refine Mi.whole (m_X4_copyD a 1 (g 1) 3 (g 3) tr fa (hs 1) (sl 1) (sc 1) (hs 3) (sl 3) (sc 3) q i q2 j n (by decide) hg hq (by decide) hg2 hqq) sb26 (fun r u h => ?_)
    obtain ⟨rfl, rfl⟩ := h
    exact ⟨_, pm26, rfl, tl, tf, tc, ln, lw, ss, sx, un, en, se, tk, od, ve, vd, bo, rfl⟩
  · refine Mi.whole (m_X4_copyD a 2 (g 2) 0 (g 0) tr fa (hs 2) (sl 2) (sc 2) (hs 0) (sl 0) (sc 0) q i q2 j n (by decide) hg hq (by decide) hg2 hqq) sb27 (fun r u h => ?_)
    obtain ⟨rfl, rfl⟩ := h
    exact ⟨_, pm27, rfl, tl, tf, tc, ln, lw, ss, sx, un, en, se, tk, od, ve, vd, bo, rfl⟩
  · refine Mi.whole (m_X4_copyD a 2 (g 2) 1 (g 1) tr fa (hs 2) (sl 2) (sc 2) (hs 1) (sl 1) (sc 1) q i q2 j n (by decide) hg hq (by decide) hg2 hqq) sb28 (fun r u h => ?_)
    obtain ⟨rfl, rfl⟩ := h
    exact ⟨_, pm28, rfl, tl, tf, tc, ln, lw, ss, sx, un, en, se, tk, od, ve, vd, bo, rfl⟩
  · exact absurd rfl hne
  · refine Mi.whole (m_X4_copyD a 2 (g 2) 3 (g 3) tr fa (hs 2) (sl 2) (sc 2) (hs 3) (sl 3) (sc 3) q i q2 j n (by decide) hg hq (by decide) hg2 hqq) sb29 (fun r u h => ?_)
    obtain ⟨rfl, rfl⟩ := h
    exact ⟨_, pm29, rfl, tl, tf, tc, ln, lw, ss, sx, un, en, se, tk, od, ve, vd, bo, rfl⟩
  · refine Mi.whole (m_X4_copyD a 3 (g 3) 0 (g 0) tr fa (hs 3) (sl 3) (sc 3) (hs 0) (sl 0) (sc 0) q i q2 j n (by decide) hg hq (by decide) hg2 hqq) sb30 (fun r u h => ?_)
    obtain ⟨rfl, rfl⟩ := h
    exact ⟨_, pm30, rfl, tl, tf, tc, ln, lw, ss, sx, un, en, se, tk, od, ve, vd, bo, rfl⟩
  · refine Mi.whole (m_X4_copyD a 3 (g 3) 1 (g 1) tr fa (hs 3) (sl 3) (sc 3) (hs 1) (sl 1) (sc 1) q i q2 j n (by decide) hg hq (by decide) hg2 hqq) sb31 (fun r u h => ?_)
    obtain ⟨rfl, rfl⟩ := h
    exact ⟨_, pm31, rfl, tl, tf, tc, ln, lw, ss, sx, un, en, se, tk, od, ve, vd, bo, rfl⟩
  · refine Mi.whole (m_X4_copyD a 3 (g 3) 2 (g 2) tr fa (hs 3) (sl 3) (sc 3) (hs 2) (sl 2) (sc 2) q i q2 j n (by decide) hg hq (by decide) hg2 hqq) sb32 (fun r u h => ?_)
    obtain ⟨rfl, rfl⟩ := h
    exact ⟨_, pm32, rfl, tl, tf, tc, ln, lw, ss, sx, un, en, se, tk, od, ve, vd, bo, rfl⟩
  · exact absurd rfl hne
set_option maxHeartbeats 4000000 in
theorem c_X4_copyS {l : Launch} {D : va_G} {cI cB cS : ClassId} {a : Nat → Nat} {tr fa : Int32} {hs sl : Nat → Int32} {g : Nat → Nat} {sc : Nat → Nat → Int32} {si : Int32} {nj nc wl s0 st nr : Nat} {kd ag de ta we rC rH : Nat → Int32} {w : va_W} (hw : CW a cI cS tr fa hs sl g sc si nj nc wl s0 st nr kd ag de ta we rC rH w) (k : Nat) (q : Int32) (i : Int32) (q2 : Int32) (j : Int32) (n : Int32) (hk : k < 4) (hg : (g k) ≤ 60) (hq : vS q → q = nI k) (hqq : vS q2 → q2 = nI k) : Mi l yX4_copy cX4_copy 8 (some .int) 1 26 D cI cB cS [.ref (a 0), .int q, .int i, .int q2, .int j, .int n] w (fun r u => r = cyF q q2 (hs k) (hs k) (sl k) (sl k) (g k) (g k) i j n ∧ CW a cI cS tr (cyT q q2 (hs k) (hs k) (sl k) (sl k) (g k) (g k) i j n) hs sl g (va_up sc k (if cyOk q q2 (hs k) (hs k) (sl k) (sl k) (g k) (g k) i j n then va_cpy (sc k) (sc k) (zN i) (zN j) (zN n) else (sc k))) si nj nc wl s0 st nr kd ag de ta we rC rH u) := by
  obtain ⟨tl, tf, tc, ln, lw, ss, sx, un, en, se, tk, od, ve, vd, bo, rfl⟩ := hw
  rcases k4 hk with rfl | rfl | rfl | rfl
  · refine Mi.whole (m_X4_copyS a 0 (g 0) tr fa (hs 0) (sl 0) (sc 0) q i q2 j n (by decide) hg hq hqq) sb16 (fun r u h => ?_)
    obtain ⟨rfl, rfl⟩ := h
    exact ⟨_, pm16, rfl, tl, tf, tc, ln, lw, ss, sx, un, en, se, tk, od, ve, vd, bo, rfl⟩
  · refine Mi.whole (m_X4_copyS a 1 (g 1) tr fa (hs 1) (sl 1) (sc 1) q i q2 j n (by decide) hg hq hqq) sb17 (fun r u h => ?_)
    obtain ⟨rfl, rfl⟩ := h
    exact ⟨_, pm17, rfl, tl, tf, tc, ln, lw, ss, sx, un, en, se, tk, od, ve, vd, bo, rfl⟩
  · refine Mi.whole (m_X4_copyS a 2 (g 2) tr fa (hs 2) (sl 2) (sc 2) q i q2 j n (by decide) hg hq hqq) sb18 (fun r u h => ?_)
    obtain ⟨rfl, rfl⟩ := h
    exact ⟨_, pm18, rfl, tl, tf, tc, ln, lw, ss, sx, un, en, se, tk, od, ve, vd, bo, rfl⟩
  · refine Mi.whole (m_X4_copyS a 3 (g 3) tr fa (hs 3) (sl 3) (sc 3) q i q2 j n (by decide) hg hq hqq) sb19 (fun r u h => ?_)
    obtain ⟨rfl, rfl⟩ := h
    exact ⟨_, pm19, rfl, tl, tf, tc, ln, lw, ss, sx, un, en, se, tk, od, ve, vd, bo, rfl⟩
set_option maxHeartbeats 4000000 in
theorem c_X4_tell {l : Launch} {D : va_G} {cI cB cS : ClassId} {a : Nat → Nat} {tr fa : Int32} {hs sl : Nat → Int32} {g : Nat → Nat} {sc : Nat → Nat → Int32} {si : Int32} {nj nc wl s0 st nr : Nat} {kd ag de ta we rC rH : Nat → Int32} {w : va_W} (hw : CW a cI cS tr fa hs sl g sc si nj nc wl s0 st nr kd ag de ta we rC rH w) (j : Int32) (hnj : nj ≤ 5) (hnc : nc ≤ 5) (hlw : wl < 64) (hs0 : s0 < 2 ^ nj) (hst2 : st < 2 ^ nj) (hp5 : 2 ^ nj ≤ 32) (hnr : nr ≤ 8) : Mi l yX4_tell cX4_tell 2 (some .int) 4 84 D cI cB cS [.ref (a 0), .int j] w (fun r u => r = tlF nj kd ag j ∧ CW a cI cS (tlT nj kd tr j) fa hs sl g sc si nj nc wl s0 st nr kd ag de ta we rC rH u) := by
  obtain ⟨tl, tf, tc, ln, lw, ss, sx, un, en, se, tk, od, ve, vd, bo, rfl⟩ := hw
  refine Mi.whole (m_X4_tell a nj nc wl s0 st nr tr fa bo ln lw ss sx un en se tk od ve vd si kd ag de ta we rC rH j hnj hnc hlw hs0 hst2 hp5 hnr) sb0 (fun r u h => ?_)
  obtain ⟨rfl, rfl⟩ := h
  exact ⟨_, pm0, rfl, tl, tf, tc, ln, lw, ss, sx, un, en, se, tk, od, ve, vd, bo, rfl⟩
set_option maxHeartbeats 4000000 in
theorem c_X4_hush {l : Launch} {D : va_G} {cI cB cS : ClassId} {a : Nat → Nat} {tr fa : Int32} {hs sl : Nat → Int32} {g : Nat → Nat} {sc : Nat → Nat → Int32} {si : Int32} {nj nc wl s0 st nr : Nat} {kd ag de ta we rC rH : Nat → Int32} {w : va_W} (hw : CW a cI cS tr fa hs sl g sc si nj nc wl s0 st nr kd ag de ta we rC rH w) (j : Int32) (hnj : nj ≤ 5) (hnc : nc ≤ 5) (hlw : wl < 64) (hs0 : s0 < 2 ^ nj) (hst2 : st < 2 ^ nj) (hp5 : 2 ^ nj ≤ 32) (hnr : nr ≤ 8) : Mi l yX4_hush cX4_hush 2 (some .int) 1 21 D cI cB cS [.ref (a 0), .int j] w (fun r u => r = huF nj kd j ∧ CW a cI cS (huT nj kd tr j) fa hs sl g sc si nj nc wl s0 st nr kd ag de ta we rC rH u) := by
  obtain ⟨tl, tf, tc, ln, lw, ss, sx, un, en, se, tk, od, ve, vd, bo, rfl⟩ := hw
  refine Mi.whole (m_X4_hush a nj nc wl s0 st nr tr fa bo ln lw ss sx un en se tk od ve vd si kd ag de ta we rC rH j hnj hnc hlw hs0 hst2 hp5 hnr) sb0 (fun r u h => ?_)
  obtain ⟨rfl, rfl⟩ := h
  exact ⟨_, pm0, rfl, tl, tf, tc, ln, lw, ss, sx, un, en, se, tk, od, ve, vd, bo, rfl⟩
set_option maxHeartbeats 4000000 in
theorem c_X4_as {l : Launch} {D : va_G} {cI cB cS : ClassId} {a : Nat → Nat} {tr fa : Int32} {hs sl : Nat → Int32} {g : Nat → Nat} {sc : Nat → Nat → Int32} {si : Int32} {nj nc wl s0 st nr : Nat} {kd ag de ta we rC rH : Nat → Int32} {w : va_W} (hw : CW a cI cS tr fa hs sl g sc si nj nc wl s0 st nr kd ag de ta we rC rH w) (j : Int32) (x : Int32) (hnj : nj ≤ 5) (hnc : nc ≤ 5) (hlw : wl < 64) (hs0 : s0 < 2 ^ nj) (hst2 : st < 2 ^ nj) (hp5 : 2 ^ nj ≤ 32) (hnr : nr ≤ 8) : Mi l yX4_as cX4_as 3 (some .int) 1 21 D cI cB cS [.ref (a 0), .int j, .int x] w (fun r u => r = asF nj kd j x ∧ CW a cI cS tr (asT nj kd j x) hs sl g sc si nj nc wl s0 st nr kd ag de ta we rC rH u) := by
  obtain ⟨tl, tf, tc, ln, lw, ss, sx, un, en, se, tk, od, ve, vd, bo, rfl⟩ := hw
  refine Mi.whole (m_X4_as a nj nc wl s0 st nr tr fa bo ln lw ss sx un en se tk od ve vd si kd ag de ta we rC rH j x hnj hnc hlw hs0 hst2 hp5 hnr) sb0 (fun r u h => ?_)
  obtain ⟨rfl, rfl⟩ := h
  exact ⟨_, pm0, rfl, tl, tf, tc, ln, lw, ss, sx, un, en, se, tk, od, ve, vd, bo, rfl⟩
set_option maxHeartbeats 4000000 in
theorem c_X4_trace {l : Launch} {D : va_G} {cI cB cS : ClassId} {a : Nat → Nat} {tr fa : Int32} {hs sl : Nat → Int32} {g : Nat → Nat} {sc : Nat → Nat → Int32} {si : Int32} {nj nc wl s0 st nr : Nat} {kd ag de ta we rC rH : Nat → Int32} {w : va_W} (hw : CW a cI cS tr fa hs sl g sc si nj nc wl s0 st nr kd ag de ta we rC rH w) (hnj : nj ≤ 5) (hnc : nc ≤ 5) (hlw : wl < 64) (hs0 : s0 < 2 ^ nj) (hst2 : st < 2 ^ nj) (hp5 : 2 ^ nj ≤ 32) (hnr : nr ≤ 8) : Mi l yX4_trace cX4_trace 1 (some .int) 0 0 D cI cB cS [.ref (a 0)] w (fun r u => r = tr ∧ CW a cI cS tr fa hs sl g sc si nj nc wl s0 st nr kd ag de ta we rC rH u) := by
  obtain ⟨tl, tf, tc, ln, lw, ss, sx, un, en, se, tk, od, ve, vd, bo, rfl⟩ := hw
  refine Mi.whole (m_X4_trace a nj nc wl s0 st nr tr fa bo ln lw ss sx un en se tk od ve vd si kd ag de ta we rC rH hnj hnc hlw hs0 hst2 hp5 hnr) sb0 (fun r u h => ?_)
  obtain ⟨rfl, rfl⟩ := h
  exact ⟨_, pm0, rfl, tl, tf, tc, ln, lw, ss, sx, un, en, se, tk, od, ve, vd, bo, rfl⟩
set_option maxHeartbeats 4000000 in
theorem c_X4_fault {l : Launch} {D : va_G} {cI cB cS : ClassId} {a : Nat → Nat} {tr fa : Int32} {hs sl : Nat → Int32} {g : Nat → Nat} {sc : Nat → Nat → Int32} {si : Int32} {nj nc wl s0 st nr : Nat} {kd ag de ta we rC rH : Nat → Int32} {w : va_W} (hw : CW a cI cS tr fa hs sl g sc si nj nc wl s0 st nr kd ag de ta we rC rH w) (hnj : nj ≤ 5) (hnc : nc ≤ 5) (hlw : wl < 64) (hs0 : s0 < 2 ^ nj) (hst2 : st < 2 ^ nj) (hp5 : 2 ^ nj ≤ 32) (hnr : nr ≤ 8) : Mi l yX4_fault cX4_fault 1 (some .int) 0 0 D cI cB cS [.ref (a 0)] w (fun r u => r = fa ∧ CW a cI cS tr fa hs sl g sc si nj nc wl s0 st nr kd ag de ta we rC rH u) := by
  obtain ⟨tl, tf, tc, ln, lw, ss, sx, un, en, se, tk, od, ve, vd, bo, rfl⟩ := hw
  refine Mi.whole (m_X4_fault a nj nc wl s0 st nr tr fa bo ln lw ss sx un en se tk od ve vd si kd ag de ta we rC rH hnj hnc hlw hs0 hst2 hp5 hnr) sb0 (fun r u h => ?_)
  obtain ⟨rfl, rfl⟩ := h
  exact ⟨_, pm0, rfl, tl, tf, tc, ln, lw, ss, sx, un, en, se, tk, od, ve, vd, bo, rfl⟩
set_option maxHeartbeats 4000000 in
theorem c_X4_many {l : Launch} {D : va_G} {cI cB cS : ClassId} {a : Nat → Nat} {tr fa : Int32} {hs sl : Nat → Int32} {g : Nat → Nat} {sc : Nat → Nat → Int32} {si : Int32} {nj nc wl s0 st nr : Nat} {kd ag de ta we rC rH : Nat → Int32} {w : va_W} (hw : CW a cI cS tr fa hs sl g sc si nj nc wl s0 st nr kd ag de ta we rC rH w) (x : Int32) (hnj : nj ≤ 5) (hnc : nc ≤ 5) (hlw : wl < 64) (hs0 : s0 < 2 ^ nj) (hst2 : st < 2 ^ nj) (hp5 : 2 ^ nj ≤ 32) (hnr : nr ≤ 8) : Mi l yX4_many cX4_many 2 (some .int) 0 0 D cI cB cS [.ref (a 0), .int x] w (fun r u => r = maF nj nc si wl nr x ∧ CW a cI cS tr fa hs sl g sc si nj nc wl s0 st nr kd ag de ta we rC rH u) := by
  obtain ⟨tl, tf, tc, ln, lw, ss, sx, un, en, se, tk, od, ve, vd, bo, rfl⟩ := hw
  refine Mi.whole (m_X4_many a nj nc wl s0 st nr tr fa bo ln lw ss sx un en se tk od ve vd si kd ag de ta we rC rH x hnj hnc hlw hs0 hst2 hp5 hnr) sb0 (fun r u h => ?_)
  obtain ⟨rfl, rfl⟩ := h
  exact ⟨_, pm0, rfl, tl, tf, tc, ln, lw, ss, sx, un, en, se, tk, od, ve, vd, bo, rfl⟩
set_option maxHeartbeats 4000000 in
theorem c_X4_court {l : Launch} {D : va_G} {cI cB cS : ClassId} {a : Nat → Nat} {tr fa : Int32} {hs sl : Nat → Int32} {g : Nat → Nat} {sc : Nat → Nat → Int32} {si : Int32} {nj nc wl s0 st nr : Nat} {kd ag de ta we rC rH : Nat → Int32} {w : va_W} (hw : CW a cI cS tr fa hs sl g sc si nj nc wl s0 st nr kd ag de ta we rC rH w) (k : Nat) (q x i n : Int32) (hk : k < 4) (hg : g k ≤ 60) (hq : vS q → q = nI k) : Mi l yX4_court cX4_court 8 (some .int) 5 107 D cI cB cS [.ref (a 0), .int q, .int x, .int i, .int n] w (fun r u => (¬ (vS q ∧ vL x ∧ focF (hs k) (sl k) (nI (g k)) x i n = 0) ∧ r = coF q x (focF (hs k) (sl k) (nI (g k)) x i n) ∧ CW a cI cS tr (coT q x (focF (hs k) (sl k) (nI (g k)) x i n)) hs sl g sc si nj nc wl s0 st nr kd ag de ta we rC rH u) ∨ ((vS q ∧ vL x ∧ focF (hs k) (sl k) (nI (g k)) x i n = 0) ∧ ∃ p : Nat, ffF (fun px => sc k (zN i + px)) (zN n) = some p ∧ r = -100 - nI p ∧ CW a cI cS tr 0 hs sl g sc si nj nc wl s0 st nr kd ag de ta we rC rH u) ∨ ((vS q ∧ vL x ∧ focF (hs k) (sl k) (nI (g k)) x i n = 0) ∧ ∃ nj' nc' : Nat, Tx (fun px => sc k (zN i + px)) (zN n) nj' nc' ∧ r = nI nc' ∧ CW a cI cS tr 0 hs sl g sc (tmF (fun px => sc k (zN i + px))) nj' nc' 0 0 0 0 (tbF (vKd (fun px => sc k (zN i + px))) kd nj') (tbF (vAg (fun px => sc k (zN i + px))) ag nj') (tbF (vCa (fun px => sc k (zN i + px)) (3 + 3 * nj') 0) de nc') (tbF (vCa (fun px => sc k (zN i + px)) (3 + 3 * nj') 1) ta nc') (tbF (vCa (fun px => sc k (zN i + px)) (3 + 3 * nj') 2) we nc') rC rH u)) := by
  obtain ⟨tl, tf, tc, ln, lw, ss, sx, un, en, se, tk, od, ve, vd, bo, rfl⟩ := hw
  rcases k4 hk with rfl | rfl | rfl | rfl
  · refine Mi.whole (m_X4_court a 0 (g 0) tr fa (hs 0) (sl 0) (sc 0) tl tf tc si (nI nj) (nI nc) (nI wl) (nI s0) (nI st) (nI nr) kd ag de ta we q x i n (by decide) hg hq) sb35 (fun r u h => ?_)
    rcases h with ⟨h1, rfl, rfl⟩ | ⟨h1, p, tl_, tf_, tc_, h2, rfl, rfl⟩ | ⟨h1, nj_, nc_, tl_, tf_, tc_, h2, rfl, rfl⟩
    · exact ⟨_, pm35, Or.inl ⟨h1, rfl, tl, tf, tc, ln, lw, ss, sx, un, en, se, tk, od, ve, vd, bo, rfl⟩⟩
    · exact ⟨_, pm35, Or.inr (Or.inl ⟨h1, p, h2, rfl, tl_, tf_, tc_, ln, lw, ss, sx, un, en, se, tk, od, ve, vd, bo, rfl⟩)⟩
    · exact ⟨_, pm35, Or.inr (Or.inr ⟨h1, nj_, nc_, h2, rfl, tl_, tf_, tc_, ln, lw, ss, sx, un, en, se, tk, od, ve, vd, bo, rfl⟩)⟩
  · refine Mi.whole (m_X4_court a 1 (g 1) tr fa (hs 1) (sl 1) (sc 1) tl tf tc si (nI nj) (nI nc) (nI wl) (nI s0) (nI st) (nI nr) kd ag de ta we q x i n (by decide) hg hq) sb36 (fun r u h => ?_)
    rcases h with ⟨h1, rfl, rfl⟩ | ⟨h1, p, tl_, tf_, tc_, h2, rfl, rfl⟩ | ⟨h1, nj_, nc_, tl_, tf_, tc_, h2, rfl, rfl⟩
    · exact ⟨_, pm36, Or.inl ⟨h1, rfl, tl, tf, tc, ln, lw, ss, sx, un, en, se, tk, od, ve, vd, bo, rfl⟩⟩
    · exact ⟨_, pm36, Or.inr (Or.inl ⟨h1, p, h2, rfl, tl_, tf_, tc_, ln, lw, ss, sx, un, en, se, tk, od, ve, vd, bo, rfl⟩)⟩
    · exact ⟨_, pm36, Or.inr (Or.inr ⟨h1, nj_, nc_, h2, rfl, tl_, tf_, tc_, ln, lw, ss, sx, un, en, se, tk, od, ve, vd, bo, rfl⟩)⟩
  · refine Mi.whole (m_X4_court a 2 (g 2) tr fa (hs 2) (sl 2) (sc 2) tl tf tc si (nI nj) (nI nc) (nI wl) (nI s0) (nI st) (nI nr) kd ag de ta we q x i n (by decide) hg hq) sb37 (fun r u h => ?_)
    rcases h with ⟨h1, rfl, rfl⟩ | ⟨h1, p, tl_, tf_, tc_, h2, rfl, rfl⟩ | ⟨h1, nj_, nc_, tl_, tf_, tc_, h2, rfl, rfl⟩
    · exact ⟨_, pm37, Or.inl ⟨h1, rfl, tl, tf, tc, ln, lw, ss, sx, un, en, se, tk, od, ve, vd, bo, rfl⟩⟩
    · exact ⟨_, pm37, Or.inr (Or.inl ⟨h1, p, h2, rfl, tl_, tf_, tc_, ln, lw, ss, sx, un, en, se, tk, od, ve, vd, bo, rfl⟩)⟩
    · exact ⟨_, pm37, Or.inr (Or.inr ⟨h1, nj_, nc_, h2, rfl, tl_, tf_, tc_, ln, lw, ss, sx, un, en, se, tk, od, ve, vd, bo, rfl⟩)⟩
  · refine Mi.whole (m_X4_court a 3 (g 3) tr fa (hs 3) (sl 3) (sc 3) tl tf tc si (nI nj) (nI nc) (nI wl) (nI s0) (nI st) (nI nr) kd ag de ta we q x i n (by decide) hg hq) sb38 (fun r u h => ?_)
    rcases h with ⟨h1, rfl, rfl⟩ | ⟨h1, p, tl_, tf_, tc_, h2, rfl, rfl⟩ | ⟨h1, nj_, nc_, tl_, tf_, tc_, h2, rfl, rfl⟩
    · exact ⟨_, pm38, Or.inl ⟨h1, rfl, tl, tf, tc, ln, lw, ss, sx, un, en, se, tk, od, ve, vd, bo, rfl⟩⟩
    · exact ⟨_, pm38, Or.inr (Or.inl ⟨h1, p, h2, rfl, tl_, tf_, tc_, ln, lw, ss, sx, un, en, se, tk, od, ve, vd, bo, rfl⟩)⟩
    · exact ⟨_, pm38, Or.inr (Or.inr ⟨h1, nj_, nc_, h2, rfl, tl_, tf_, tc_, ln, lw, ss, sx, un, en, se, tk, od, ve, vd, bo, rfl⟩)⟩
