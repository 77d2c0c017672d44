/-! rows for what is made anew -/
section NewRows
variable {p : Program} {l : Launch} {e : Env} {R : Room} {s : State} {m : MethodId} {args : Array Value} {below : List Frame} {meth : Method} {c : Code} {D : va_G} {Q : State → Prop} {mc ms nL : Nat} {ws : va_W} {lv : List (Nat × Value)} {pc : Nat} {st : List Value} {cI cB cS : ClassId} {cc : ByteArray} {own : String} {ret : Option FieldType} {A : Nat → Prop}
theorem v_newI (C : Cx p s m meth c D cI cB cS cc nL own ret) (hw : Cond.arrayClass .int ∈ tbl) (N : Nat) {n : Int32} (d : decode cc pc = .ok (.newarray .int, 2)) (hn : ¬ n < 0) (hN : n.toNatClampNeg = N) (hb : N * 4 ≤ 536870912) (hc : mc + 1 ≤ R.cells) (hs : ms + N ≤ R.slots) (kk : ∀ q, V p l e R s m args below meth c D (IM A s) Q (mc + 1) (ms + N) nL (ws ++ [ia q cI N (fun _ => 0)]) lv (pc + 2) (.ref q :: st)) : V p l e R s m args below meth c D (IM A s) Q mc ms nL ws lv pc (.int n :: st) := by
  intro H locs ls hP hI hl
  obtain ⟨hx, hb0, -, hown, -, -, hts, hK⟩ := C
  refine va_newa hx hb0 (atype := .int) (hts _ hw args) rfl hK hP hI.1 hI.2.1 hI.2.2 (a0 := (N, .inl (fun _ => 0))) (fun cA => rfl) hn hN hb hc hs d (fun q cA H1 hK1 hP1 hD1 hS1 => ?_)
  have e1 := (hK1.2 3 _ rfl).2
  have e2 := (hK.2 0 _ rfl).2
  have e3 : cA = cI := Option.some.inj (e1.symm.trans e2)
  subst e3
  exact kk q H1 locs ls hP1 ⟨hD1, hS1, hI.2.2⟩ hl
theorem v_newB (C : Cx p s m meth c D cI cB cS cc nL own ret) (hw : Cond.arrayClass .boolean ∈ tbl) (N : Nat) {n : Int32} (d : decode cc pc = .ok (.newarray .boolean, 2)) (hn : ¬ n < 0) (hN : n.toNatClampNeg = N) (hb : N * 1 ≤ 536870912) (hc : mc + 1 ≤ R.cells) (hs : ms + N ≤ R.slots) (kk : ∀ q, V p l e R s m args below meth c D (IM A s) Q (mc + 1) (ms + N) nL (ws ++ [ia q cB N (fun _ => 0)]) lv (pc + 2) (.ref q :: st)) : V p l e R s m args below meth c D (IM A s) Q mc ms nL ws lv pc (.int n :: st) := by
  intro H locs ls hP hI hl
  obtain ⟨hx, hb0, -, hown, -, -, hts, hK⟩ := C
  refine va_newa hx hb0 (atype := .boolean) (hts _ hw args) rfl hK hP hI.1 hI.2.1 hI.2.2 (a0 := (N, .inl (fun _ => 0))) (fun cA => rfl) hn hN hb hc hs d (fun q cA H1 hK1 hP1 hD1 hS1 => ?_)
  have e1 := (hK1.2 3 _ rfl).2
  have e2 := (hK.2 1 _ rfl).2
  have e3 : cA = cB := Option.some.inj (e1.symm.trans e2)
  subst e3
  exact kk q H1 locs ls hP1 ⟨hD1, hS1, hI.2.2⟩ hl
end NewRows
