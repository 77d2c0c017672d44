theorem law_in {L i : Nat} (hL : L ≤ 384) (hi : i ≤ 400) (h : ¬ nI L - 6 < nI i) : i + 6 ≤ L := by
  rw [Int32.lt_iff_toInt_lt, Int32.toInt_sub, nI_toInt (by omega), nI_toInt (by omega)] at h
  have e6 : (6 : Int32).toInt = 6 := by decide
  rw [e6, Int.bmod_eq_of_le (by omega) (by omega)] at h
  omega
theorem law_sw {x : Int32} (h : ¬ (x.toInt < 0 ∨ 30 < x.toInt)) : ∃ k : Nat, k ≤ 30 ∧ x = nI k := by
  have h1 : ¬ x < 0 := by
    rw [Int32.lt_iff_toInt_lt]
    intro q
    exact h (Or.inl q)
  obtain ⟨j, hj, rfl⟩ := nI_of h1
  rw [nI_toInt hj] at h
  exact ⟨j, by omega, rfl⟩
set_option maxHeartbeats 8000000 in
set_option maxRecDepth 100000 in
theorem law_loop {zp : Program} {l : Launch} {ze : Env} {zs : State} {zm : MethodId} {zav : Array Value} {zb : List Frame} {zt : Method} {zc : Code} {D : va_G} {cI cB cS : ClassId} {A : Nat → Prop} {Q : State → Prop} (C : Cx zp zs zm zt zc D cI cB cS cL_law 4 RL (some .boolean)) {x0 L : Nat} {xs : Nat → Int32} (hX : va_X x0 L xs zs zs.heap) (hbl : x0 < zs.heap.size) (hbA : ¬ A x0) (hL : L ≤ 384) {a b : Nat → Nat} (kend : ∀ i wc wm, V zp l ze room_1 zs zm zav zb zt zc D (IM A zs) Q 46 806 4 (wc ++ wm) [(3, .int (nI i)), (2, .ref (b 0)), (1, .ref (a 0)), (0, .ref x0)] 1185 []) : ∀ (n i : Nat) (wc wm : va_W), L + 6 < n + i → i ≤ 400 → INV a b cI cB cS wc wm → V zp l ze room_1 zs zm zav zb zt zc D (IM A zs) Q 46 806 4 (wc ++ wm) [(3, .int (nI i)), (2, .ref (b 0)), (1, .ref (a 0)), (0, .ref x0)] 18 [] := by
  intro n
  induction n with
  | zero =>
    intro i wc wm hn h4 hI
    refine v_iload_n C dL_law_18 0 rfl ?_
    refine v_aload_n C dL_law_19 3 rfl ?_
    refine v_slen C hX hbl hbA dL_law_20 ?_
    refine v_bipush C 6 dL_law_21 (by decide) ?_
    refine v_isub C dL_law_23 ?_
    refine v_icmp_gt C 1185 dL_law_24 (by decide) (fun _ => kend i wc wm) (fun h => ?_)
    have hi := law_in hL h4 h
    omega
  | succ n ih =>
    intro i wc wm hn h4 hI
    refine v_iload_n C dL_law_18 0 rfl ?_
    refine v_aload_n C dL_law_19 3 rfl ?_
    refine v_slen C hX hbl hbA dL_law_20 ?_
    refine v_bipush C 6 dL_law_21 (by decide) ?_
    refine v_isub C dL_law_23 ?_
    refine v_icmp_gt C 1185 dL_law_24 (by decide) (fun _ => kend i wc wm) (fun h => ?_)
    have hi := law_in hL h4 h
    have kk : ∀ wc wm, INV a b cI cB cS wc wm → V zp l ze room_1 zs zm zav zb zt zc D (IM A zs) Q 46 806 4 (wc ++ wm) [(3, .int (nI i)), (2, .ref (b 0)), (1, .ref (a 0)), (0, .ref x0)] 1179 [] := by
      intro wc wm hI
      refine v_iinc C (nI (i + 6)) [(3, .int (nI (i + 6))), (2, .ref (b 0)), (1, .ref (a 0)), (0, .ref x0)] 0 dL_law_1179 rfl (nI_inc6 i) (by decide) rfl ?_
      refine v_goto C 18 dL_law_1182 (by decide) ?_
      exact ih (i + 6) wc wm (by omega) (by omega) hI
    refine v_aload_n C dL_law_27 3 rfl ?_
    refine v_iload_n C dL_law_28 0 rfl ?_
    refine v_sld C hX hbl hbA i rfl (by omega) (by omega) dL_law_29 ?_
    refine v_bipush C 31 dL_law_30 (by decide) ?_
    refine v_iand C dL_law_32 ?_
    by_cases hs : (xs i &&& 31).toInt < 0 ∨ 30 < (xs i &&& 31).toInt
    · exact v_tableOut C 1179 dL_law_33 hs (by decide) (kk wc wm hI)
    · obtain ⟨j, hj, e⟩ := law_sw hs
      refine v_eqi (nI j) e ?_
      rcases (by omega : j = 0 ∨ j = 1 ∨ j = 2 ∨ j = 3 ∨ j = 4 ∨ j = 5 ∨ j = 6 ∨ j = 7 ∨ j = 8 ∨ j = 9 ∨ j = 10 ∨ j = 11 ∨ j = 12 ∨ j = 13 ∨ j = 14 ∨ j = 15 ∨ j = 16 ∨ j = 17 ∨ j = 18 ∨ j = 19 ∨ j = 20 ∨ j = 21 ∨ j = 22 ∨ j = 23 ∨ j = 24 ∨ j = 25 ∨ j = 26 ∨ j = 27 ∨ j = 28 ∨ j = 29 ∨ j = 30) with rfl | rfl | rfl | rfl | rfl | rfl | rfl | rfl | rfl | rfl | rfl | rfl | rfl | rfl | rfl | rfl | rfl | rfl | rfl | rfl | rfl | rfl | rfl | rfl | rfl | rfl | rfl | rfl | rfl | rfl | rfl
      · exact v_tableIn C 172 dL_law_33 (by decide) (by decide) rfl (by decide) (law_c0 C hX hbl hbA hL hi hI kk)
      · exact v_tableIn C 225 dL_law_33 (by decide) (by decide) rfl (by decide) (law_c1 C hX hbl hbA hL hi hI kk)
      · exact v_tableIn C 258 dL_law_33 (by decide) (by decide) rfl (by decide) (law_c2 C hX hbl hbA hL hi hI kk)
      · exact v_tableIn C 291 dL_law_33 (by decide) (by decide) rfl (by decide) (law_c3 C hX hbl hbA hL hi hI kk)
      · exact v_tableIn C 314 dL_law_33 (by decide) (by decide) rfl (by decide) (law_c4 C hX hbl hbA hL hi hI kk)
      · exact v_tableIn C 363 dL_law_33 (by decide) (by decide) rfl (by decide) (law_c5 C hX hbl hbA hL hi hI kk)
      · exact v_tableIn C 412 dL_law_33 (by decide) (by decide) rfl (by decide) (law_c6 C hX hbl hbA hL hi hI kk)
      · exact v_tableIn C 435 dL_law_33 (by decide) (by decide) rfl (by decide) (law_c7 C hX hbl hbA hL hi hI kk)
      · exact v_tableIn C 498 dL_law_33 (by decide) (by decide) rfl (by decide) (law_c8 C hX hbl hbA hL hi hI kk)
      · exact v_tableIn C 531 dL_law_33 (by decide) (by decide) rfl (by decide) (law_c9 C hX hbl hbA hL hi hI kk)
      · exact v_tableIn C 554 dL_law_33 (by decide) (by decide) rfl (by decide) (law_c10 C hX hbl hbA hL hi hI kk)
      · exact v_tableIn C 577 dL_law_33 (by decide) (by decide) rfl (by decide) (law_c11 C hX hbl hbA hL hi hI kk)
      · exact v_tableIn C 640 dL_law_33 (by decide) (by decide) rfl (by decide) (law_c12 C hX hbl hbA hL hi hI kk)
      · exact v_tableIn C 663 dL_law_33 (by decide) (by decide) rfl (by decide) (law_c13 C hX hbl hbA hL hi hI kk)
      · exact v_tableIn C 686 dL_law_33 (by decide) (by decide) rfl (by decide) (law_c14 C hX hbl hbA hL hi hI kk)
      · exact v_tableIn C 719 dL_law_33 (by decide) (by decide) rfl (by decide) (law_c15 C hX hbl hbA hL hi hI kk)
      · exact v_tableIn C 742 dL_law_33 (by decide) (by decide) rfl (by decide) (law_c16 C hX hbl hbA hL hi hI kk)
      · exact v_tableIn C 765 dL_law_33 (by decide) (by decide) rfl (by decide) (law_c17 C hX hbl hbA hL hi hI kk)
      · exact v_tableIn C 788 dL_law_33 (by decide) (by decide) rfl (by decide) (law_c18 C hX hbl hbA hL hi hI kk)
      · exact v_tableIn C 801 dL_law_33 (by decide) (by decide) rfl (by decide) (law_c19 C hX hbl hbA hL hi hI kk)
      · exact v_tableIn C 835 dL_law_33 (by decide) (by decide) rfl (by decide) (law_c20 C hX hbl hbA hL hi hI kk)
      · exact v_tableIn C 878 dL_law_33 (by decide) (by decide) rfl (by decide) (law_c21 C hX hbl hbA hL hi hI kk)
      · exact v_tableIn C 901 dL_law_33 (by decide) (by decide) rfl (by decide) (law_c22 C hX hbl hbA hL hi hI kk)
      · exact v_tableIn C 944 dL_law_33 (by decide) (by decide) rfl (by decide) (law_c23 C hX hbl hbA hL hi hI kk)
      · exact v_tableIn C 988 dL_law_33 (by decide) (by decide) rfl (by decide) (law_c24 C hX hbl hbA hL hi hI kk)
      · exact v_tableIn C 1051 dL_law_33 (by decide) (by decide) rfl (by decide) (law_c25 C hX hbl hbA hL hi hI kk)
      · exact v_tableIn C 1074 dL_law_33 (by decide) (by decide) rfl (by decide) (law_c26 C hX hbl hbA hL hi hI kk)
      · exact v_tableIn C 1097 dL_law_33 (by decide) (by decide) rfl (by decide) (law_c27 C hX hbl hbA hL hi hI kk)
      · exact v_tableIn C 1130 dL_law_33 (by decide) (by decide) rfl (by decide) (law_c28 C hX hbl hbA hL hi hI kk)
      · exact v_tableIn C 1143 dL_law_33 (by decide) (by decide) rfl (by decide) (law_c29 C hX hbl hbA hL hi hI kk)
      · exact v_tableIn C 1156 dL_law_33 (by decide) (by decide) rfl (by decide) (law_c30 C hX hbl hbA hL hi hI kk)
