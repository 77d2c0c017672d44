/-- 1 or 0 -/
def bI (P : Prop) [Decidable P] : Int32 := if P then 1 else 0
theorem bI_t {P : Prop} [Decidable P] (h : P) : bI P = 1 := if_pos h
theorem bI_f {P : Prop} [Decidable P] (h : ¬ P) : bI P = 0 := if_neg h
theorem bI_eq {P Q : Prop} [Decidable P] [Decidable Q] (h : P ↔ Q) : bI P = bI Q := by
  by_cases hp : P
  · rw [bI_t hp, bI_t (h.mp hp)]
  · rw [bI_f hp, bI_f (fun q => hp (h.mpr q))]
theorem bI_nar (P : Prop) [Decidable P] : narrow .boolean (.int (bI P)) = .int (bI P) := by
  by_cases h : P
  · rw [bI_t h]; rfl
  · rw [bI_f h]; rfl
theorem bI_fit (P : Prop) [Decidable P] : fits .boolean (.int (bI P)) = true := by
  by_cases h : P
  · rw [bI_t h]; rfl
  · rw [bI_f h]; rfl
theorem bI_vp (P : Prop) [Decidable P] : vp_nar .boolean (bI P) = bI P := by
  by_cases h : P
  · rw [bI_t h]; rfl
  · rw [bI_f h]; rfl
theorem nI_inc (i : Nat) : nI i + Int32.ofInt 1 = nI (i + 1) := nI_1 i
theorem nI_inc6 (i : Nat) : nI i + Int32.ofInt 6 = nI (i + 6) := nI_add i 6
theorem nI_dec {i : Nat} (h : 0 < i) : nI i + Int32.ofInt (-1) = nI (i - 1) := by
  obtain ⟨k, rfl⟩ : ∃ k, i = k + 1 := ⟨i - 1, by omega⟩
  exact pk_m1 k
theorem nI_lt_of {a b : Nat} (h : ¬ nI b ≤ nI a) (hb : b < 2 ^ 31) : a < b ∨ 2 ^ 31 ≤ a := by
  rcases Nat.lt_or_ge a (2 ^ 31) with ha | ha
  · rcases Nat.lt_or_ge a b with q | q
    · exact Or.inl q
    · exact absurd (nI_le q ha) h
  · exact Or.inr ha
theorem nI_ltD {a b : Nat} (h : ¬ nI b ≤ nI a) (ha : a < 2 ^ 31) : a < b := by
  rcases Nat.lt_or_ge a b with q | q
  · exact q
  · exact absurd (nI_le q ha) h
theorem nI_leD {a b : Nat} (h : nI b ≤ nI a) (hb : b < 2 ^ 31) : b ≤ a := by
  rcases Nat.lt_or_ge a b with q | q
  · exact absurd h (nI_ge q hb)
  · exact q
theorem nI_ltP {a b : Nat} (h : nI a < nI b) (ha : a < 2 ^ 31) : a < b := by
  rcases Nat.lt_or_ge a b with q | q
  · exact q
  · exact absurd h (nI_nlt q ha)
theorem nI_geP {a b : Nat} (h : ¬ nI a < nI b) (hb : b < 2 ^ 31) : b ≤ a := by
  rcases Nat.lt_or_ge a b with q | q
  · exact absurd (nI_lt q hb) h
  · exact q
theorem nI_eqP {a b : Nat} (h : nI a = nI b) (ha : a < 2 ^ 31) (hb : b < 2 ^ 31) : a = b := (nI_eq ha hb).mp h
theorem tab_o3 {x : Int32} (h0 : ¬ x = 0) (h1 : ¬ x = 1) (h2 : ¬ x = 2) : x.toInt < 0 ∨ 2 < x.toInt := by
  have a0 := lv_neT h0 (a := 0) rfl
  have a1 := lv_neT h1 (a := 1) rfl
  have a2 := lv_neT h2 (a := 2) rfl
  omega
theorem tab_out3 {x : Int32} (h0 : ¬ x = 0) (h1 : ¬ x = 1) (h2 : ¬ x = 2) : x.toInt < 0 ∨ 2 < x.toInt := tab_o3 h0 h1 h2
theorem tab_out4 {x : Int32} (h0 : ¬ x = 0) (h1 : ¬ x = 1) (h2 : ¬ x = 2) (h3 : ¬ x = 3) : x.toInt < 0 ∨ 3 < x.toInt := by
  have a := tab_o3 h0 h1 h2
  have a3 := lv_neT h3 (a := 3) rfl
  omega
theorem tab_out5 {x : Int32} (h0 : ¬ x = 0) (h1 : ¬ x = 1) (h2 : ¬ x = 2) (h3 : ¬ x = 3) (h4 : ¬ x = 4) : x.toInt < 0 ∨ 4 < x.toInt := by
  have a := tab_out4 h0 h1 h2 h3
  have a4 := lv_neT h4 (a := 4) rfl
  omega
section BaseRows
variable {p : Program} {l : Launch} {e : Env} {R : Room} {s : State} {m : MethodId} {args : Array Value} {below : List Frame} {meth : Method} {c : Code} {D : va_G} {I : va_W → Heap → List Loc → Prop} {Q : State → Prop} {mc ms nL : Nat} {ws : va_W} {lv : List (Nat × Value)} {pc : Nat} {st : List Value}
theorem v_lv0 (lv' : List (Nat × Value)) (h : lv = lv') (kk : V p l e R s m args below meth c D I Q mc ms nL ws lv' pc st) : V p l e R s m args below meth c D I Q mc ms nL ws lv pc st := h ▸ kk
theorem v_ws0 (ws' : va_W) (h : ws = ws') (kk : V p l e R s m args below meth c D I Q mc ms nL ws' lv pc st) : V p l e R s m args below meth c D I Q mc ms nL ws lv pc st := h ▸ kk
theorem v_st0 (st' : List Value) (h : st = st') (kk : V p l e R s m args below meth c D I Q mc ms nL ws lv pc st') : V p l e R s m args below meth c D I Q mc ms nL ws lv pc st := h ▸ kk
theorem v_topi {x : Int32} (kk : ∀ y : Int32, y = x → V p l e R s m args below meth c D I Q mc ms nL ws lv pc (.int y :: st)) : V p l e R s m args below meth c D I Q mc ms nL ws lv pc (.int x :: st) := kk x rfl
theorem vp_cell_ext {cA : ClassId} {n : Nat} {f g : Nat → Int32} (h : ∀ j, j < n → f j = g j) : vp_cell cA (n, .inl f) = vp_cell cA (n, .inl g) := by
  rw [vp_cell_i, vp_cell_i]
  unfold arrV
  congr 1
  apply Array.ext
  · simp
  · intro i h1 h2
    simp at h1 h2 ⊢
    exact h i h1
/-- a row's contents, by another function that is the same within the row -/
theorem v_ext {A : Nat → Prop} (ws' : va_W) (q0 : Nat) {q n : Nat} {cA : ClassId} {f : Nat → Int32} (g : Nat → Int32) (he : ws[q0]? = some (q, .inl (cA, n, .inl f))) (h : ∀ j, j < n → f j = g j) (hw : ws.set q0 (q, .inl (cA, n, .inl g)) = ws') (kk : V p l e R s m args below meth c D (IM A s) Q mc ms nL ws' lv pc st) : V p l e R s m args below meth c D (IM A s) Q mc ms nL ws lv pc st := by
  intro H locs ls hP hI hl
  subst hw
  refine kk H locs ls (hP.set hI.1 he ?_ (fun _ _ => rfl)) ⟨hI.1.set he, hI.2⟩ hl
  show H[q]? = some (vp_cell cA (n, .inl g))
  rw [← vp_cell_ext h]
  exact hP q0 _ he
end BaseRows
def ia (q : Nat) (c : ClassId) (n : Nat) (f : Nat → Int32) : Nat × va_E := (q, .inl (c, n, .inl f))
def aS (a : Nat → Nat) (cS : ClassId) : Nat × va_E := (a 1, .inl (cS, 4, .inr (.inr (.inr (.inr (fun k => some (a (10 + k))))))))
def oC (a : Nat → Nat) (tr fa : Int32) : Nat × va_E := (a 0, .inr (4, [.ref (a 1), .ref (a 2), .ref (a 3), .ref (a 4), .ref (a 5), .int tr, .int fa]))
def oX (a : Nat → Nat) (tl tf : Int32) : Nat × va_E := (a 2, .inr (3, [.ref (a 6), .int tl, .int tf]))
def oK (a : Nat → Nat) (si ju ca la sw sk rd : Int32) : Nat × va_E := (a 3, .inr (0, [.ref (a 20), .ref (a 21), .ref (a 22), .ref (a 23), .ref (a 24), .ref (a 25), .ref (a 26), .int si, .int ju, .int ca, .int la, .int sw, .int sk, .int rd]))
def oT (a : Nat → Nat) (ln lw ss sx un en se : Int32) : Nat × va_E := (a 4, .inr (2, [.ref (a 3), .ref (a 31), .ref (a 32), .ref (a 33), .ref (a 34), .int ln, .int lw, .int ss, .int sx, .int un, .int en, .int se]))
def oS (a : Nat → Nat) (k : Nat) (hs sl sn : Int32) : Nat × va_E := (a (10 + k), .inr (1, [.ref (a (14 + k)), .int hs, .int sl, .int sn]))
def oN (b : Nat → Nat) (n_fa n_tr n_mi n_ju n_co n_cr n_at n_rm n_rj n_rc n_nw n_ov n_rl n_rd : Int32) : Nat × va_E := (b 0, .inr (5, [.int n_fa, .int n_tr, .ref (b 2), .ref (b 3), .ref (b 4), .int n_mi, .int n_ju, .int n_co, .int n_cr, .ref (b 9), .ref (b 10), .ref (b 11), .ref (b 12), .ref (b 13), .ref (b 14), .ref (b 15), .int n_at, .int n_rm, .int n_rj, .int n_rc, .ref (b 20), .ref (b 21), .int n_nw, .int n_ov, .ref (b 24), .ref (b 25), .ref (b 26), .int n_rl, .ref (b 28), .ref (b 29), .int n_rd, .ref (b 31), .ref (b 32)]))
