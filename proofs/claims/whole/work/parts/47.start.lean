theorem arr_of {s : State} {A : Array Value} {ty : FieldType} (h : (Cond.arrayClass ty).before A s = true) : ∃ cA : ClassId, ArrOfT s cA ty ∧ s.vm.findClass ("[" ++ ty.toString) = some cA := by
  obtain ⟨cA, kA, comp, h1, h2, h3⟩ := Cond.arrayClass_spec h
  exact ⟨cA, fun n z => ⟨fun k h => (by cases h), kA, h2, comp, h3⟩, h1⟩
theorem arrq_of {s : State} {A : Array Value} {C : String} (h : (Cond.arrayOver (.object C)).before A s = true) : ∃ cA : ClassId, ArrOfT s cA (.object C) ∧ va_RA s cA (.object C) := by
  obtain ⟨comp, cA, kA, h1, h2, h3, h4, h5⟩ := Cond.arrayOver_spec h
  exact ⟨cA, fun n z => ⟨fun k h => (by cases h), kA, h3, comp, h4⟩, kA, comp, h3, h4, h1, h5⟩
theorem wd_start {s : State} (h : TB s) : ∃ (D : va_G) (cI cB cS : ClassId), Wd D cI cB cS s := by
  have hts : ∀ w ∈ tbl, w.before #[] s = true := fun w hw => h w hw #[]
  obtain ⟨cX0_, iX0_, kX0_⟩ := u_known hts tbin_X0 (hts _ (tb_in (w := .instantiable RX0 14) 96 (by decide +kernel) rfl))
  obtain ⟨cX1_, iX1_, kX1_⟩ := u_known hts tbin_X1 (hts _ (tb_in (w := .instantiable RX1 4) 219 (by decide +kernel) rfl))
  obtain ⟨cX2_, iX2_, kX2_⟩ := u_known hts tbin_X2 (hts _ (tb_in (w := .instantiable RX2 12) 169 (by decide +kernel) rfl))
  obtain ⟨cX3_, iX3_, kX3_⟩ := u_known hts tbin_X3 (hts _ (tb_in (w := .instantiable RX3 3) 79 (by decide +kernel) rfl))
  obtain ⟨cX4_, iX4_, kX4_⟩ := u_known hts tbin_X4 (hts _ (tb_in (w := .instantiable RX4 7) 69 (by decide +kernel) rfl))
  obtain ⟨cX5_, iX5_, kX5_⟩ := u_known hts tbin_X5 (hts _ (tb_in (w := .instantiable RX5 33) 616 (by decide +kernel) rfl))
  obtain ⟨cI, a1, a2⟩ := arr_of (hts _ ao_int)
  obtain ⟨cB, b1, b2⟩ := arr_of (hts _ ao_bool)
  obtain ⟨cS, q1, q2⟩ := arrq_of (hts _ ao_sheet)
  refine ⟨(fun i => match i with | 0 => cX0_ | 1 => cX1_ | 2 => cX2_ | 3 => cX3_ | 4 => cX4_ | _ => cX5_, fun i => match i with | 0 => iX0_ | 1 => iX1_ | 2 => iX2_ | 3 => iX3_ | 4 => iX4_ | _ => iX5_), cI, cB, cS, h, fun c q hq => ?_, fun k q hq => ?_⟩
  · match c, hq with
    | 0, hq => cases hq; exact kX0_
    | 1, hq => cases hq; exact kX1_
    | 2, hq => cases hq; exact kX2_
    | 3, hq => cases hq; exact kX3_
    | 4, hq => cases hq; exact kX4_
    | 5, hq => cases hq; exact kX5_
    | (c + 6), hq => exact absurd hq (by simp [vwCl])
  · match k, hq with
    | 0, hq => cases hq; exact ⟨a1, a2⟩
    | 1, hq => cases hq; exact ⟨b1, b2⟩
    | 2, hq => cases hq; exact ⟨q1, q2⟩
    | (k + 3), hq => exact absurd hq (by simp [tys3])
