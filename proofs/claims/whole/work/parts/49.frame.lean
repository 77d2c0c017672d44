/-- wc stands in ws, beside wr -/
def Sub (wc ws wr : va_W) : Prop := ∃ isC isR : List Nat, va_nd isC = true ∧ isC.map (fun i => ws[i]?) = wc.map some ∧ isR.map (fun i => ws[i]?) = wr.map some ∧ va_nd isR = true ∧ ∀ i ∈ isR, i ∉ isC
/-- the cells of ws in another order (or fewer) -/
def Prm (ws ws' : va_W) : Prop := ∃ is : List Nat, va_nd is = true ∧ is.map (fun i => ws[i]?) = ws'.map some
theorem fm_of {is : List Nat} {ws wc : va_W} (hs : is.map (fun i => ws[i]?) = wc.map some) : is.filterMap (fun i => ws[i]?) = wc := by
  have e : is.filterMap (fun i => ws[i]?) = (is.map (fun i => ws[i]?)).filterMap id := by rw [List.filterMap_map]; rfl
  rw [e, hs, List.filterMap_map]; simp
theorem va_A_sub {isC : List Nat} {ws wc : va_W} {sz : Nat} (hC : isC.map (fun i => ws[i]?) = wc.map some) : ∀ q, va_A wc sz q → va_A ws sz q := by
  intro q h
  rcases h with ⟨k, e, h⟩ | h
  · have h1 : (isC.map (fun i => ws[i]?))[k]? = some (some (q, e)) := by rw [hC, List.getElem?_map, h]; rfl
    rw [List.getElem?_map] at h1
    cases hi : isC[k]? with
    | none => rw [hi] at h1; cases h1
    | some i => rw [hi] at h1; exact Or.inl ⟨i, e, Option.some.inj h1⟩
  · exact Or.inr h
section Frames
variable {l : Launch} {y : MethodName} {cc : ByteArray} {n : Nat} {ret : Option FieldType} {fr lo : Nat} {D : va_G} {cI cB cS : ClassId} {av : List Value} {wc ws wr : va_W}
theorem Mi.whole {Po Po' : Int32 → va_W → Prop} (hM : Mi l y cc n ret fr lo D cI cB cS av wc Po) (hS : Sub wc ws wr) (hQ : ∀ r w, Po r w → ∃ u, Prm (wr ++ w) u ∧ Po' r u) : Mi l y cc n ret fr lo D cI cB cS av ws Po' := by
  obtain ⟨isC, isR, hnC, hs, hr, hnR, hdis⟩ := hS
  intro sz
  refine MetFree.mono (hM sz) ?_ (fun _ _ _ _ _ h => h) ?_
  · intro a U h
    obtain ⟨e, hsz, hP, hW, hD⟩ := h
    exact ⟨e, hsz, hP.sub isC (fm_of hs), hW, hD.sub isC hnC hs⟩
  · intro a U o t h h2
    obtain ⟨e, hsz, hP, hW, hD⟩ := h
    obtain ⟨⟨⟨r, u, ho, hpo, hP1, hW1, hD1⟩, hF⟩, Lc, hFE, hL⟩ := h2
    obtain ⟨u', ⟨is, hni, hi⟩, hpo'⟩ := hQ r u hpo
    subst hsz
    have hsub := va_A_sub (sz := U.heap.size) hs
    obtain ⟨hP2, hD2⟩ := va_join (A0 := va_A ws U.heap.size) hP hD.self isC isR hs hr hnR hdis hF.2 hsub hP1 hD1
    exact ⟨⟨⟨r, u', ho, hpo', hP2.sub is (fm_of hi), hW1, hD2.sub is hni hi⟩, hF.1, fun q h1 h2 => hF.2 q h1 (fun z => h2 (hsub q z))⟩, Lc, hFE, fun q hq => hsub _ (hL q hq)⟩
theorem Ml.whole {Po Po' : Int64 → va_W → Prop} (hM : Ml l y cc n fr lo D cI cB cS av wc Po) (hS : Sub wc ws wr) (hQ : ∀ r w, Po r w → ∃ u, Prm (wr ++ w) u ∧ Po' r u) : Ml l y cc n fr lo D cI cB cS av ws Po' := by
  obtain ⟨isC, isR, hnC, hs, hr, hnR, hdis⟩ := hS
  intro sz
  refine MetFree.mono (hM sz) ?_ (fun _ _ _ _ _ h => h) ?_
  · intro a U h
    obtain ⟨e, hsz, hP, hW, hD⟩ := h
    exact ⟨e, hsz, hP.sub isC (fm_of hs), hW, hD.sub isC hnC hs⟩
  · intro a U o t h h2
    obtain ⟨e, hsz, hP, hW, hD⟩ := h
    obtain ⟨⟨⟨r, u, ho, hpo, hP1, hW1, hD1⟩, hF⟩, Lc, hFE, hL⟩ := h2
    obtain ⟨u', ⟨is, hni, hi⟩, hpo'⟩ := hQ r u hpo
    subst hsz
    have hsub := va_A_sub (sz := U.heap.size) hs
    obtain ⟨hP2, hD2⟩ := va_join (A0 := va_A ws U.heap.size) hP hD.self isC isR hs hr hnR hdis hF.2 hsub hP1 hD1
    exact ⟨⟨⟨r, u', ho, hpo', hP2.sub is (fm_of hi), hW1, hD2.sub is hni hi⟩, hF.1, fun q h1 h2 => hF.2 q h1 (fun z => h2 (hsub q z))⟩, Lc, hFE, fun q hq => hsub _ (hL q hq)⟩
end Frames
theorem va_nd_of : ∀ {is : List Nat}, is.Nodup → va_nd is = true
  | [], _ => rfl
  | a :: is, h => by
    have h' := List.nodup_cons.mp h
    simp only [va_nd, Bool.and_eq_true, decide_eq_true_eq]
    exact ⟨h'.1, va_nd_of h'.2⟩
theorem sub_app (wc wr : va_W) : Sub wc (wc ++ wr) wr := by
  refine ⟨List.range wc.length, (List.range wr.length).map (fun i => wc.length + i), va_nd_of List.nodup_range, ?_, ?_, ?_, ?_⟩
  · apply List.ext_getElem
    · simp
    · intro i h1 h2
      simp at h1 h2 ⊢
      rw [List.getElem?_append_left h1, List.getElem?_eq_getElem h1]
  · apply List.ext_getElem
    · simp
    · intro i h1 h2
      simp at h1 h2 ⊢
      rw [List.getElem?_append_right (Nat.le_add_right _ _), Nat.add_sub_cancel_left, List.getElem?_eq_getElem h1]
  · apply va_nd_of
    refine List.Pairwise.map _ (fun a b h => ?_) List.nodup_range
    omega
  · intro i hi hc
    simp at hi hc
    obtain ⟨j, hj, rfl⟩ := hi
    omega
theorem hd_app {w v : va_W} {x : Nat × va_E} (h : w[0]? = some x) : (w ++ v)[0]? = some x := by
  cases w with
  | nil => simp at h
  | cons y w => simpa using h
section LawCalls
variable {p : Program} {l : Launch} {e : Env} {R : Room} {s : State} {m : MethodId} {args : Array Value} {below : List Frame} {meth : Method} {c : Code} {D : va_G} {Q : State → Prop} {mc ms nL : Nat} {wc wr : va_W} {lv : List (Nat × Value)} {pc : Nat} {st rest As : List Value} {cI cB cS : ClassId} {cc : ByteArray} {own : String} {ret : Option FieldType}
variable {y : MethodName} {ix : Nat} {Cn : String} {cy : ByteArray} {ny np fr lo : Nat} {ry : Option FieldType} {b : Nat} {A : Nat → Prop}
/-- a call on the world's first half: what comes back stands behind the other -/
theorem v_cM {Po : Int32 → va_W → Prop} (C : Cx p s m meth c D cI cB cS cc nL own ret) (L : LkV own ix Cn y cy ny ry np) (hM : Mi l y cy ny ry fr lo D cI cB cS (.ref b :: As) wc Po) (hR : fr + 1 ≤ R.frames ∧ 8 + (ny + 11) + lo ≤ R.locals) (d : decode cc pc = .ok (.invokevirtual ix, 3)) {ci N : Nat} {T : u_T} {fs : List Value} (he : wc[0]? = some (b, .inr (ci, fs))) (hcl : vwCl[ci]? = some (Cn, T, N)) (hn : As.length = np) (hst : st = As.reverse ++ .ref b :: rest) (hc : (rest.map fun v => v.category).sum ≤ 8) (hf : mc ≤ R.cells ∧ ms ≤ R.slots)
    (kk : ∀ (r : Int32) (w : va_W), Po r w → V p l e R s m args below meth c D (IM A s) Q mc ms nL (wr ++ w) lv (pc + 3) (.int r :: rest)) : V p l e R s m args below meth c D (IM A s) Q mc ms nL (wc ++ wr) lv pc st := by
  obtain ⟨isC, isR, hnC, hs, hr, hnR, hdis⟩ := sub_app wc wr
  exact v_callMi C L hM hR d isC isR hnC hs hr hnR hdis 0 (hd_app he) hcl hn hst hc hf kk
theorem v_cMl {Po : Int64 → va_W → Prop} (C : Cx p s m meth c D cI cB cS cc nL own ret) (L : LkV own ix Cn y cy ny (some .long) np) (hM : Ml l y cy ny fr lo D cI cB cS (.ref b :: As) wc Po) (hR : fr + 1 ≤ R.frames ∧ 8 + (ny + 11) + lo ≤ R.locals) (d : decode cc pc = .ok (.invokevirtual ix, 3)) {ci N : Nat} {T : u_T} {fs : List Value} (he : wc[0]? = some (b, .inr (ci, fs))) (hcl : vwCl[ci]? = some (Cn, T, N)) (hn : As.length = np) (hst : st = As.reverse ++ .ref b :: rest) (hc : (rest.map fun v => v.category).sum ≤ 8) (hf : mc ≤ R.cells ∧ ms ≤ R.slots)
    (kk : ∀ (r : Int64) (w : va_W), Po r w → V p l e R s m args below meth c D (IM A s) Q mc ms nL (wr ++ w) lv (pc + 3) (.long r :: rest)) : V p l e R s m args below meth c D (IM A s) Q mc ms nL (wc ++ wr) lv pc st := by
  obtain ⟨isC, isR, hnC, hs, hr, hnR, hdis⟩ := sub_app wc wr
  exact v_callMl C L hM hR d isC isR hnC hs hr hnR hdis 0 (hd_app he) hcl hn hst hc hf kk
end LawCalls
