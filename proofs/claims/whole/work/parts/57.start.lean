theorem vp_cell_extq {cA : ClassId} {n : Nat} {f g : Nat → Option Nat} (h : ∀ j, j < n → f j = g j) : vp_cell cA (n, .inr (.inr (.inr (.inr f)))) = vp_cell cA (n, .inr (.inr (.inr (.inr g)))) := by
  rw [vp_cell_q, vp_cell_q]
  unfold arrV
  congr 1
  apply Array.ext
  · simp
  · intro i h1 h2
    simp at h1 h2 ⊢
    rw [h i h1]
theorem sub_appR (wc wr : va_W) : Sub wr (wc ++ wr) wc := by
  obtain ⟨isC, isR, hnC, hs, hr, hnR, hdis⟩ := sub_app wc wr
  exact ⟨isR, isC, hnR, hr, hs, hnC, fun i h1 h2 => hdis i h2 h1⟩
theorem pm_ctor {c0 c1 c2 c3 c4 c5 c6 c7 c8 c9 c10 c11 c12 c13 c14 c15 c16 c17 c18 c19 c20 c21 c22 c23 c24 c25 : Nat × va_E} : Prm [c0, c1, c2, c3, c4, c5, c6, c7, c8, c9, c10, c11, c12, c13, c14, c15, c16, c17, c18, c19, c20, c21, c22, c23, c24, c25] [c0, c1, c18, c19, c20, c21, c22, c23, c24, c25, c2, c3, c4, c5, c6, c7, c8, c9, c10, c11, c12, c13, c14, c15, c16, c17] := ⟨[0, 1, 18, 19, 20, 21, 22, 23, 24, 25, 2, 3, 4, 5, 6, 7, 8, 9, 10, 11, 12, 13, 14, 15, 16, 17], by decide, rfl⟩
section StartRows
variable {p : Program} {l : Launch} {e : Env} {R : Room} {s : State} {m : MethodId} {args : Array Value} {below : List Frame} {meth : Method} {c : Code} {D : va_G} {Q : State → Prop} {mc ms nL : Nat} {ws : va_W} {lv : List (Nat × Value)} {pc : Nat} {st : List Value} {A : Nat → Prop}
theorem v_extq (ws' : va_W) (q0 : Nat) {q n : Nat} {cA : ClassId} {f : Nat → Option Nat} (g : Nat → Option Nat) (he : ws[q0]? = some (q, .inl (cA, n, .inr (.inr (.inr (.inr f)))))) (h : ∀ j, j < n → f j = g j) (hw : ws.set q0 (q, .inl (cA, n, .inr (.inr (.inr (.inr g))))) = ws') (kk : V p l e R s m args below meth c D (IM A s) Q mc ms nL ws' lv pc st) : V p l e R s m args below meth c D (IM A s) Q mc ms nL ws lv pc st := by
  intro H locs ls hP hI hl
  subst hw
  refine kk H locs ls (hP.set hI.1 he ?_ (fun _ _ => rfl)) ⟨hI.1.set he, hI.2⟩ hl
  show H[q]? = some (vp_cell cA (n, .inr (.inr (.inr (.inr g)))))
  rw [← vp_cell_extq h]
  exact hP q0 _ he
theorem v_prm {ws' : va_W} (h : Prm ws ws') (kk : V p l e R s m args below meth c D (IM A s) Q mc ms nL ws' lv pc st) : V p l e R s m args below meth c D (IM A s) Q mc ms nL ws lv pc st := by
  obtain ⟨is, h1, h2⟩ := h
  exact v_perm is h1 h2 kk
end StartRows
set_option maxHeartbeats 8000000 in
set_option maxRecDepth 100000 in
theorem law_x {zp : Program} {l : Launch} {ze : Env} {zs : State} {zm : MethodId} {zav : Array Value} {zb : List Frame} {zt : Method} {zc : Code} {D : va_G} {cI cB cS : ClassId} {A : Nat → Prop} {Q : State → Prop} (C : Cx zp zs zm zt zc D cI cB cS cL_law 4 RL (some .boolean)) {x0 : Nat} (kk : ∀ (a : Nat → Nat) (wc : va_W), CW a cI cS 0 0 (fun _ => 0) (fun _ => 0) (fun _ => 0) (fun _ _ => 0) 0 0 0 0 0 0 0 (fun _ => 0) (fun _ => 0) (fun _ => 0) (fun _ => 0) (fun _ => 0) (fun _ => 0) (fun _ => 0) wc → V zp l ze room_1 zs zm zav zb zt zc D (IM A zs) Q 26 423 4 wc [(1, .ref (a 0)), (0, .ref x0)] 8 []) : V zp l ze room_1 zs zm zav zb zt zc D (IM A zs) Q 0 0 4 [] [(0, .ref x0)] 0 [] := by
  refine v_newO C n_L_7 dL_law_0 (by decide) (by decide) (fun o => ?_)
  refine v_ws0 [(o, .inr (4, [.null, .null, .null, .null, .null, .int 0, .int 0]))] rfl ?_
  refine v_dup C dL_law_3 rfl ?_
  refine v_callC C lk_L_9 (m_X4_init o) (by decide) dL_law_4 [0] [] (wr := []) (by decide) rfl rfl (by decide) (by decide) rfl (rest := [.ref o]) rfl (Nat.le_of_ble_eq_true rfl) (by decide) (fun w h => ?_)
  obtain ⟨q1, q2, q3, q4, q5, q6, q7, q8, q9, q10, q11, q12, q13, q14, q15, q16, q17, q18, q19, q20, q21, q22, q23, q24, q25, rfl⟩ := h
  refine v_astore_n C [(1, .ref o), (0, .ref x0)] dL_law_7 (by decide) rfl ?_
  refine v_extq _ 1 (fun k => some ((fun i => [o, q1, q2, q4, q12, q17, q3, 0, 0, 0, q18, q20, q22, q24, q19, q21, q23, q25, 0, 0, q5, q6, q7, q8, q9, q10, q11, 0, 0, 0, 0, q13, q14, q15, q16].getD i 0) (10 + k))) rfl (fun j hj => by rcases k4 hj with rfl | rfl | rfl | rfl <;> rfl) rfl ?_
  refine v_prm pm_ctor ?_
  exact kk (fun i => [o, q1, q2, q4, q12, q17, q3, 0, 0, 0, q18, q20, q22, q24, q19, q21, q23, q25, 0, 0, q5, q6, q7, q8, q9, q10, q11, 0, 0, 0, 0, q13, q14, q15, q16].getD i 0) _ ⟨0, 0, (fun _ => 0), 0, 0, 0, 0, 0, 0, 0, (fun _ => 0), (fun _ => 0), (fun _ => 0), (fun _ => 0), (fun _ => 0), rfl⟩
set_option maxHeartbeats 8000000 in
set_option maxRecDepth 100000 in
theorem law_m {zp : Program} {l : Launch} {ze : Env} {zs : State} {zm : MethodId} {zav : Array Value} {zb : List Frame} {zt : Method} {zc : Code} {D : va_G} {cI cB cS : ClassId} {A : Nat → Prop} {Q : State → Prop} (C : Cx zp zs zm zt zc D cI cB cS cL_law 4 RL (some .boolean)) {x0 : Nat} {a : Nat → Nat} {wc : va_W} (kk : ∀ (b : Nat → Nat) (wm : va_W), MW b cI cB 0 0 0 0 0 0 0 (fun _ => 0) (fun _ => 0) (fun _ => 0) (fun _ => 0) (fun _ => 0) (fun _ => 0) (fun _ => 0) (upd (upd (upd (upd (fun _ => 0) 0 (-9)) 1 (-9)) 2 (-9)) 3 (-9)) (fun _ => 0) (fun _ => 0) (fun _ => 0) (fun _ => 0) wm → V zp l ze room_1 zs zm zav zb zt zc D (IM A zs) Q 46 806 4 (wc ++ wm) [(2, .ref (b 0)), (1, .ref (a 0)), (0, .ref x0)] 16 []) : V zp l ze room_1 zs zm zav zb zt zc D (IM A zs) Q 26 423 4 wc [(1, .ref (a 0)), (0, .ref x0)] 8 [] := by
  refine v_newO C n_L_10 dL_law_8 (by decide) (by decide) (fun o => ?_)
  refine v_dup C dL_law_11 rfl ?_
  obtain ⟨isC, isR, hnC, hs, hr, hnR, hdis⟩ := sub_appR wc [(o, .inr (5, [.int 0, .int 0, .null, .null, .null, .int 0, .int 0, .int 0, .int 0, .null, .null, .null, .null, .null, .null, .null, .int 0, .int 0, .int 0, .int 0, .null, .null, .int 0, .int 0, .null, .null, .null, .int 0, .null, .null, .int 0, .null, .null]))]
  refine v_callC C lk_L_12 (m_X5_init o) (by decide) dL_law_12 isC isR (wr := wc) hnC hs hr hnR hdis rfl (rest := [.ref o]) rfl (Nat.le_of_ble_eq_true rfl) (by decide) (fun w h => ?_)
  obtain ⟨q1, q2, q3, q4, q5, q6, q7, q8, q9, q10, q11, q12, q13, q14, q15, q16, q17, q18, q19, rfl⟩ := h
  refine v_astore_n C [(2, .ref o), (1, .ref (a 0)), (0, .ref x0)] dL_law_15 (by decide) rfl ?_
  exact kk (fun i => [o, 0, q1, q2, q3, 0, 0, 0, 0, q4, q5, q6, q7, q8, q9, q10, 0, 0, 0, 0, q11, q12, 0, 0, q13, q14, q15, 0, q16, q17, 0, q18, q19].getD i 0) _ ⟨0, 0, 0, 0, 0, 0, 0, (fun _ => 0), (fun _ => 0), (fun _ => 0), (fun _ => 0), (fun _ => 0), (fun _ => 0), (fun _ => 0), rfl⟩
theorem inv_0 {a b : Nat → Nat} {cI cB cS : ClassId} {wc wm : va_W} (hC : CW a cI cS 0 0 (fun _ => 0) (fun _ => 0) (fun _ => 0) (fun _ _ => 0) 0 0 0 0 0 0 0 (fun _ => 0) (fun _ => 0) (fun _ => 0) (fun _ => 0) (fun _ => 0) (fun _ => 0) (fun _ => 0) wc) (hM : MW b cI cB 0 0 0 0 0 0 0 (fun _ => 0) (fun _ => 0) (fun _ => 0) (fun _ => 0) (fun _ => 0) (fun _ => 0) (fun _ => 0) (upd (upd (upd (upd (fun _ => 0) 0 (-9)) 1 (-9)) 2 (-9)) 3 (-9)) (fun _ => 0) (fun _ => 0) (fun _ => 0) (fun _ => 0) wm) : INV a b cI cB cS wc wm := by
  refine ⟨_, _, _, _, _, _, _, _, _, _, _, _, _, _, _, _, _, _, _, _, _, _, _, _, _, (fun _ => 0), (fun _ => 0), hC, hM, ⟨by decide, by decide, by decide, by decide, by decide, by decide, by decide⟩, ⟨fun j hj => absurd hj (Nat.not_lt_zero j), fun j hj => absurd hj (Nat.not_lt_zero j), fun j hj => absurd hj (Nat.not_lt_zero j), fun j hj => absurd hj (Nat.not_lt_zero j), fun j hj => absurd hj (Nat.not_lt_zero j)⟩, fun k hk => ?_⟩
  refine ⟨Nat.zero_le _, ?_, rfl, fun h => absurd rfl h, fun i hi => rfl⟩
  rcases k4 hk with rfl | rfl | rfl | rfl <;> rfl
