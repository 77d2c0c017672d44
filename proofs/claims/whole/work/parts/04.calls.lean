/-! contracts. A method's words are its code alone: the tables' words stand in its start -/
abbrev rmOf (fr lo : Nat) : Room := { frames := fr, cells := 0, slots := 0, locals := lo }
abbrev StM (D : va_G) (cI cB cS : ClassId) (wi : va_W) (sz : Nat) : State → Prop := fun U => U.heap.size = sz ∧ va_P D vwCl wi U.heap ∧ Wd D cI cB cS U ∧ va_D (fun _ => True) wi
abbrev EnM (D : va_G) (cI cB cS : ClassId) (wi : va_W) (sz : Nat) : va_W → State → Prop := fun u t => va_P D vwCl u t.heap ∧ Wd D cI cB cS t ∧ va_D (va_A wi sz) u
abbrev StR (D : va_G) (cI cB cS : ClassId) (wi : va_W) : State → Prop := fun U => va_P D vwCl wi U.heap ∧ Wd D cI cB cS U
/-- mutating, an int comes back -/
def Mi (l : Launch) (y : MethodName) (cc : ByteArray) (n : Nat) (ret : Option FieldType) (fr lo : Nat) (D : va_G) (cI cB cS : ClassId) (av : List Value) (wi : va_W) (Po : Int32 → va_W → Prop) : Prop :=
  ∀ sz, Met l y [.code y cc n ret] (rmOf fr lo) (va_Pc av (StM D cI cB cS wi sz)) (va_Qi Po (EnM D cI cB cS wi sz) (va_A wi sz)) 0 0 (va_A wi sz)
/-- mutating, nothing comes back -/
def Mv (l : Launch) (y : MethodName) (cc : ByteArray) (n : Nat) (fr lo : Nat) (D : va_G) (cI cB cS : ClassId) (av : List Value) (wi : va_W) (Po : va_W → Prop) : Prop :=
  ∀ sz, Met l y [.code y cc n none] (rmOf fr lo) (va_Pc av (StM D cI cB cS wi sz)) (va_Qv Po (EnM D cI cB cS wi sz) (va_A wi sz)) 0 0 (va_A wi sz)
/-- mutating, a long comes back -/
def Ml (l : Launch) (y : MethodName) (cc : ByteArray) (n : Nat) (fr lo : Nat) (D : va_G) (cI cB cS : ClassId) (av : List Value) (wi : va_W) (Po : Int64 → va_W → Prop) : Prop :=
  ∀ sz, Met l y [.code y cc n (some .long)] (rmOf fr lo) (va_Pc av (StM D cI cB cS wi sz)) (va_Ql Po (EnM D cI cB cS wi sz) (va_A wi sz)) 0 0 (va_A wi sz)
/-- reading, an int comes back -/
def Ri (l : Launch) (y : MethodName) (cc : ByteArray) (n : Nat) (ret : Option FieldType) (fr lo : Nat) (D : va_G) (cI cB cS : ClassId) (av : List Value) (wi : va_W) (Po : Int32 → Prop) : Prop :=
  Met l y [.code y cc n ret] (rmOf fr lo) (va_Pc av (StR D cI cB cS wi)) (vp_Si Po) 0 0 (fun _ => False)
/-- reading, a long comes back -/
def Rl (l : Launch) (y : MethodName) (cc : ByteArray) (n : Nat) (fr lo : Nat) (D : va_G) (cI cB cS : ClassId) (av : List Value) (wi : va_W) (Po : Int64 → Prop) : Prop :=
  Met l y [.code y cc n (some .long)] (rmOf fr lo) (va_Pc av (StR D cI cB cS wi)) (vp_Sl Po) 0 0 (fun _ => False)
abbrev QMi (below : List Frame) (a : Array Value) (s : State) (D : va_G) (cI cB cS : ClassId) (wi : va_W) (sz : Nat) (Po : Int32 → va_W → Prop) : State → Prop := MQ below (va_Qi Po (EnM D cI cB cS wi sz) (va_A wi sz)) a s 0 0 (va_A wi sz)
abbrev QMv (below : List Frame) (a : Array Value) (s : State) (D : va_G) (cI cB cS : ClassId) (wi : va_W) (sz : Nat) (Po : va_W → Prop) : State → Prop := MQ below (va_Qv Po (EnM D cI cB cS wi sz) (va_A wi sz)) a s 0 0 (va_A wi sz)
abbrev QMl (below : List Frame) (a : Array Value) (s : State) (D : va_G) (cI cB cS : ClassId) (wi : va_W) (sz : Nat) (Po : Int64 → va_W → Prop) : State → Prop := MQ below (va_Ql Po (EnM D cI cB cS wi sz) (va_A wi sz)) a s 0 0 (va_A wi sz)
abbrev QRi (below : List Frame) (a : Array Value) (s : State) (Po : Int32 → Prop) : State → Prop := MQ below (vp_Si Po) a s 0 0 (fun _ => False)
abbrev QRl (below : List Frame) (a : Array Value) (s : State) (Po : Int64 → Prop) : State → Prop := MQ below (vp_Sl Po) a s 0 0 (fun _ => False)
section Entries
variable {l : Launch} {y : MethodName} {cc : ByteArray} {n : Nat} {ret : Option FieldType} {fr lo : Nat} {D : va_G} {cI cB cS : ClassId} {av : List Value} {wi : va_W}
theorem Mi.of {Po : Int32 → va_W → Prop} (hy : plainName y.cls = true) (hn : (lg_sl av).length ≤ n)
    (body : ∀ (p : Program) (e : Env) (s : State) (m : MethodId) (below : List Frame) (meth : Method) (c : Code) (sz : Nat) (A : Nat → Prop), A = va_A wi sz → Cx p s m meth c D cI cB cS cc n y.cls ret → (y.name = meth.name) →
      V p l e (rmOf fr lo) s m av.toArray below meth c D (IM A s) (QMi below av.toArray s D cI cB cS wi sz Po) 0 0 n wi (lv_args 0 av) 0 []) : Mi l y cc n ret fr lo D cI cB cS av wi Po := by
  intro sz
  refine Met.ofW (cc := cc) (maxL := n) (ret := ret) hy rfl ?_
  intro p e s m args below meth c s₁ B hml hv
  obtain ⟨rfl, hsz, hP, hW, hD0⟩ := hv
  subst hsz
  have hl := lv_entry av (n := n) hn
  rw [lg_entry_eq]
  exact body p e s m below meth c s.heap.size _ rfl ⟨B.exec, B.bytes, hml, findClass_of_methodNamed B.named, B.returns, B.notSynchronized, hW.1, hW.2⟩ (name_of_methodNamed B.named B.method).1.symm s.heap [] _ hP ⟨hD0.self, va_S.rf, fun q h => Or.inr h⟩ hl
theorem Mv.of {Po : va_W → Prop} (hy : plainName y.cls = true) (hn : (lg_sl av).length ≤ n)
    (body : ∀ (p : Program) (e : Env) (s : State) (m : MethodId) (below : List Frame) (meth : Method) (c : Code) (sz : Nat) (A : Nat → Prop), A = va_A wi sz → Cx p s m meth c D cI cB cS cc n y.cls none → (y.name = meth.name) →
      V p l e (rmOf fr lo) s m av.toArray below meth c D (IM A s) (QMv below av.toArray s D cI cB cS wi sz Po) 0 0 n wi (lv_args 0 av) 0 []) : Mv l y cc n fr lo D cI cB cS av wi Po := by
  intro sz
  refine Met.ofW (cc := cc) (maxL := n) (ret := none) hy rfl ?_
  intro p e s m args below meth c s₁ B hml hv
  obtain ⟨rfl, hsz, hP, hW, hD0⟩ := hv
  subst hsz
  have hl := lv_entry av (n := n) hn
  rw [lg_entry_eq]
  exact body p e s m below meth c s.heap.size _ rfl ⟨B.exec, B.bytes, hml, findClass_of_methodNamed B.named, B.returns, B.notSynchronized, hW.1, hW.2⟩ (name_of_methodNamed B.named B.method).1.symm s.heap [] _ hP ⟨hD0.self, va_S.rf, fun q h => Or.inr h⟩ hl
theorem Ml.of {Po : Int64 → va_W → Prop} (hy : plainName y.cls = true) (hn : (lg_sl av).length ≤ n)
    (body : ∀ (p : Program) (e : Env) (s : State) (m : MethodId) (below : List Frame) (meth : Method) (c : Code) (sz : Nat) (A : Nat → Prop), A = va_A wi sz → Cx p s m meth c D cI cB cS cc n y.cls (some .long) → (y.name = meth.name) →
      V p l e (rmOf fr lo) s m av.toArray below meth c D (IM A s) (QMl below av.toArray s D cI cB cS wi sz Po) 0 0 n wi (lv_args 0 av) 0 []) : Ml l y cc n fr lo D cI cB cS av wi Po := by
  intro sz
  refine Met.ofW (cc := cc) (maxL := n) (ret := some .long) hy rfl ?_
  intro p e s m args below meth c s₁ B hml hv
  obtain ⟨rfl, hsz, hP, hW, hD0⟩ := hv
  subst hsz
  have hl := lv_entry av (n := n) hn
  rw [lg_entry_eq]
  exact body p e s m below meth c s.heap.size _ rfl ⟨B.exec, B.bytes, hml, findClass_of_methodNamed B.named, B.returns, B.notSynchronized, hW.1, hW.2⟩ (name_of_methodNamed B.named B.method).1.symm s.heap [] _ hP ⟨hD0.self, va_S.rf, fun q h => Or.inr h⟩ hl
theorem Ri.of {Po : Int32 → Prop} (hy : plainName y.cls = true) (hn : (lg_sl av).length ≤ n)
    (body : ∀ (p : Program) (e : Env) (s : State) (m : MethodId) (below : List Frame) (meth : Method) (c : Code), Cx p s m meth c D cI cB cS cc n y.cls ret →
      V p l e (rmOf fr lo) s m av.toArray below meth c D (IR s) (QRi below av.toArray s Po) 0 0 n wi (lv_args 0 av) 0 []) : Ri l y cc n ret fr lo D cI cB cS av wi Po := by
  refine Met.ofW (cc := cc) (maxL := n) (ret := ret) hy rfl ?_
  intro p e s m args below meth c s₁ B hml hv
  obtain ⟨rfl, hP, hW⟩ := hv
  have hl := lv_entry av (n := n) hn
  rw [lg_entry_eq]
  exact body p e s m below meth c ⟨B.exec, B.bytes, hml, findClass_of_methodNamed B.named, B.returns, B.notSynchronized, hW.1, hW.2⟩ s.heap [] _ hP ⟨rfl, rfl⟩ hl
theorem Rl.of {Po : Int64 → Prop} (hy : plainName y.cls = true) (hn : (lg_sl av).length ≤ n)
    (body : ∀ (p : Program) (e : Env) (s : State) (m : MethodId) (below : List Frame) (meth : Method) (c : Code), Cx p s m meth c D cI cB cS cc n y.cls (some .long) →
      V p l e (rmOf fr lo) s m av.toArray below meth c D (IR s) (QRl below av.toArray s Po) 0 0 n wi (lv_args 0 av) 0 []) : Rl l y cc n fr lo D cI cB cS av wi Po := by
  refine Met.ofW (cc := cc) (maxL := n) (ret := some .long) hy rfl ?_
  intro p e s m args below meth c s₁ B hml hv
  obtain ⟨rfl, hP, hW⟩ := hv
  have hl := lv_entry av (n := n) hn
  rw [lg_entry_eq]
  exact body p e s m below meth c ⟨B.exec, B.bytes, hml, findClass_of_methodNamed B.named, B.returns, B.notSynchronized, hW.1, hW.2⟩ s.heap [] _ hP ⟨rfl, rfl⟩ hl
end Entries
section Ends
variable {p : Program} {l : Launch} {e : Env} {R : Room} {s : State} {m : MethodId} {args : Array Value} {below : List Frame} {meth : Method} {c : Code} {D : va_G} {nL : Nat} {ws wi : va_W} {lv : List (Nat × Value)} {pc : Nat} {cI cB cS : ClassId} {cc : ByteArray} {own : String} {ret : Option FieldType} {sz : Nat} {A : Nat → Prop}
theorem v_reti {Po : Int32 → va_W → Prop} {ty : FieldType} {v : Int32} (C : Cx p s m meth c D cI cB cS cc nL own (some ty)) (hA : A = va_A wi sz) (d : decode cc pc = .ok (.ireturn, 1)) (hn : narrow ty (.int v) = .int v) (h : Po v ws) : V p l e R s m args below meth c D (IM A s) (QMi below args s D cI cB cS wi sz Po) 0 0 nL ws lv pc [.int v] := by
  intro H locs ls hP hI hl
  subst hA
  exact W.zret C.1 C.2.1 C.2.2.2.2.1 hn (fun t ht hW => ⟨⟨v, ws, rfl, h, by rw [ht]; exact hP, Wd.warm hW ⟨C.2.2.2.2.2.2.1, C.2.2.2.2.2.2.2⟩, hI.1⟩, hI.2.1.F ht⟩) hI.2.1.2.2 d C.2.2.2.2.2.1
theorem v_retv {Po : va_W → Prop} (C : Cx p s m meth c D cI cB cS cc nL own none) (hA : A = va_A wi sz) (d : decode cc pc = .ok (.return_, 1)) (h : Po ws) : V p l e R s m args below meth c D (IM A s) (QMv below args s D cI cB cS wi sz Po) 0 0 nL ws lv pc [] := by
  intro H locs ls hP hI hl
  subst hA
  exact W.vret C.1 C.2.1 C.2.2.2.2.1 (fun t ht hW => ⟨⟨ws, rfl, h, by rw [ht]; exact hP, Wd.warm hW ⟨C.2.2.2.2.2.2.1, C.2.2.2.2.2.2.2⟩, hI.1⟩, hI.2.1.F ht⟩) hI.2.1.2.2 d C.2.2.2.2.2.1
theorem v_retl {Po : Int64 → va_W → Prop} {v : Int64} (C : Cx p s m meth c D cI cB cS cc nL own (some .long)) (hA : A = va_A wi sz) (d : decode cc pc = .ok (.lreturn, 1)) (h : Po v ws) : V p l e R s m args below meth c D (IM A s) (QMl below args s D cI cB cS wi sz Po) 0 0 nL ws lv pc [.long v] := by
  intro H locs ls hP hI hl
  subst hA
  exact W.lret C.1 C.2.1 C.2.2.2.2.1 (fun t ht hW => ⟨⟨v, ws, rfl, h, by rw [ht]; exact hP, Wd.warm hW ⟨C.2.2.2.2.2.2.1, C.2.2.2.2.2.2.2⟩, hI.1⟩, hI.2.1.F ht⟩) hI.2.1.2.2 d C.2.2.2.2.2.1
theorem v_retRi {Po : Int32 → Prop} {ty : FieldType} {v : Int32} (C : Cx p s m meth c D cI cB cS cc nL own (some ty)) (d : decode cc pc = .ok (.ireturn, 1)) (hn : narrow ty (.int v) = .int v) (h : Po v) : V p l e R s m args below meth c D (IR s) (QRi below args s Po) 0 0 nL ws lv pc [.int v] := by
  intro H locs ls hP hI hl
  obtain ⟨rfl, rfl⟩ := hI
  exact W.zret C.1 C.2.1 C.2.2.2.2.1 hn (fun t ht hW => ⟨v, rfl, h, ht⟩) (fun q hq => by cases hq) d C.2.2.2.2.2.1
theorem v_retRl {Po : Int64 → Prop} {v : Int64} (C : Cx p s m meth c D cI cB cS cc nL own (some .long)) (d : decode cc pc = .ok (.lreturn, 1)) (h : Po v) : V p l e R s m args below meth c D (IR s) (QRl below args s Po) 0 0 nL ws lv pc [.long v] := by
  intro H locs ls hP hI hl
  obtain ⟨rfl, rfl⟩ := hI
  exact W.lret C.1 C.2.1 C.2.2.2.2.1 (fun t ht hW => ⟨v, rfl, h, ht⟩) (fun q hq => by cases hq) d C.2.2.2.2.2.1
end Ends
/-! calls -/
/-- pool entry ix of class own names the method y (of np ints or refs, whose code and answer are so), on an object of the class Cn -/
def LkV (own : String) (ix : Nat) (Cn : String) (y : MethodName) (cc : ByteArray) (n : Nat) (ret : Option FieldType) (np : Nat) : Prop :=
  (Cond.methodLink own ix y ∈ tbl ∨ ∃ host, Cond.methodLinkNest own ix y host ∈ tbl) ∧ Cond.instanceMethod y ∈ tbl ∧ Cond.selects Cn y y ∈ tbl ∧ Cond.initialized y.cls ∈ tbl ∧ Cond.code y cc n ret ∈ tbl ∧ y.cls ≠ "java/lang/invoke/MethodHandle" ∧ y.cls ≠ "java/lang/invoke/VarHandle" ∧ (parseMethodDescriptor y.desc).map (fun d => d.parameters.length) = some np
/-- .. a static one -/
def LkS (own : String) (ix : Nat) (y : MethodName) (cc : ByteArray) (n : Nat) (ret : Option FieldType) (np : Nat) : Prop :=
  (Cond.methodLink own ix y ∈ tbl ∨ ∃ host, Cond.methodLinkNest own ix y host ∈ tbl) ∧ Cond.static y ∈ tbl ∧ Cond.initialized y.cls ∈ tbl ∧ Cond.code y cc n ret ∈ tbl ∧ y.cls ≠ "java/lang/invoke/MethodHandle" ∧ y.cls ≠ "java/lang/invoke/VarHandle" ∧ (parseMethodDescriptor y.desc).map (fun d => d.parameters.length) = some np
section CallRows
variable {p : Program} {l : Launch} {e : Env} {R : Room} {s : State} {m : MethodId} {args : Array Value} {below : List Frame} {meth : Method} {c : Code} {D : va_G} {I : va_W → Heap → List Loc → Prop} {Q : State → Prop} {mc ms nL : Nat} {ws wc wr : va_W} {lv : List (Nat × Value)} {pc : Nat} {st rest As : List Value} {cI cB cS : ClassId} {cc : ByteArray} {own : String} {ret : Option FieldType}
variable {y : MethodName} {ix : Nat} {Cn : String} {cy : ByteArray} {ny np fr lo : Nat} {ry : Option FieldType} {b : Nat} {A : Nat → Prop} {H : Heap} {locs : List Loc} {ls : Array Slot} {Pc : Array Value → State → Prop} {Qc : Array Value → State → Outcome → State → Prop} {free : Addr → Prop}
theorem code_good (hts : TB s) (h : Cond.code y cy ny ry ∈ tbl) : ∀ w ∈ [Cond.code y cy ny ry], ∀ (a' : Array Value) (U : State), s.WarmedH U.vm → w.before a' U = true := by
  intro w hw a' U hW
  rw [List.mem_singleton.mp hw]
  exact (hts.warm hW) _ h a'
theorem runV' (C : Cx p s m meth c D cI cB cS cc nL own ret) (L : LkV own ix Cn y cy ny ry np) (hM : Met l y [.code y cy ny ry] (rmOf fr lo) Pc Qc 0 0 free) (hR : fr + 1 ≤ R.frames ∧ 8 + (ny + 11) + lo ≤ R.locals) (hp : PreV s H Cn b Pc As) (hn : As.length = np) (hl : lv_has ls nL lv) (hst : st = As.reverse ++ .ref b :: rest) (hc : (rest.map fun v => v.category).sum ≤ 8) (d : decode cc pc = .ok (.invokevirtual ix, 3)) (hf : mc ≤ R.cells ∧ ms ≤ R.slots) :
    va_Run p l e R s m args below meth c H locs mc ms 0 0 (F0 m pc ls st) rest (Qc (Value.ref b :: As).toArray) free := by
  obtain ⟨h1, h2, h3, h4, h5, h6, h7, h8⟩ := L
  obtain ⟨hx, hb, hml, hown, -, -, hts, hK⟩ := C
  have hlen : ∀ sig, parseMethodDescriptor y.desc = some sig → np = sig.parameters.length := by
    intro sig h
    rw [h] at h8
    exact (Option.some.inj h8).symm
  have hS : CallFix p m c cc nL s args tbl own := ⟨hx, hb, hml, hown, fun w h => hts w h args⟩
  rcases h1 with h1 | ⟨host, h1⟩
  · exact va_runV hS hM ⟨⟨rfl, rfl, hR.1, hR.2, code_good hts h5, List.mem_singleton.mpr rfl, hts _ h5 args, hts _ h4 args, ⟨h6, h7⟩, hlen, hts _ h1 args⟩, hts _ h2 args, hts _ h3 args⟩ hp rfl hn hl.1 hst (by simpa [JFrame.monitorRoom] using hc) d hf
  · exact va_runVN hS hM ⟨⟨⟨rfl, rfl, hR.1, hR.2, code_good hts h5, List.mem_singleton.mpr rfl⟩, hts _ h5 args, hts _ h4 args, ⟨h6, h7⟩, hlen, hts _ h1 args⟩, hts _ h2 args, hts _ h3 args⟩ hp rfl hn hl.1 hst (by simpa [JFrame.monitorRoom] using hc) d hf
theorem runS' (C : Cx p s m meth c D cI cB cS cc nL own ret) (L : LkS own ix y cy ny ry np) (hM : Met l y [.code y cy ny ry] (rmOf fr lo) Pc Qc 0 0 free) (hR : fr + 1 ≤ R.frames ∧ 8 + (ny + 11) + lo ≤ R.locals) (hp : PreS s H Pc As) (hn : As.length = np) (hl : lv_has ls nL lv) (hst : st = As.reverse ++ rest) (hc : (rest.map fun v => v.category).sum ≤ 8) (d : decode cc pc = .ok (.invokestatic ix, 3)) (hf : mc ≤ R.cells ∧ ms ≤ R.slots) :
    va_Run p l e R s m args below meth c H locs mc ms 0 0 (F0 m pc ls st) rest (Qc As.toArray) free := by
  obtain ⟨h1, h2, h4, h5, h6, h7, h8⟩ := L
  obtain ⟨hx, hb, hml, hown, -, -, hts, hK⟩ := C
  have hlen : ∀ sig, parseMethodDescriptor y.desc = some sig → np = sig.parameters.length := by
    intro sig h
    rw [h] at h8
    exact (Option.some.inj h8).symm
  have hS : CallFix p m c cc nL s args tbl own := ⟨hx, hb, hml, hown, fun w h => hts w h args⟩
  rcases h1 with h1 | ⟨host, h1⟩
  · exact va_runS hS hM ⟨⟨rfl, rfl, hR.1, hR.2, code_good hts h5, List.mem_singleton.mpr rfl, hts _ h5 args, hts _ h4 args, ⟨h6, h7⟩, hlen, hts _ h1 args⟩, hts _ h2 args⟩ hp rfl hn hl.1 hst (by simpa [JFrame.monitorRoom] using hc) d hf
  · exact va_runSN hS hM ⟨⟨⟨rfl, rfl, hR.1, hR.2, code_good hts h5, List.mem_singleton.mpr rfl⟩, hts _ h5 args, hts _ h4 args, ⟨h6, h7⟩, hlen, hts _ h1 args⟩, hts _ h2 args, trivial⟩ hp rfl hn hl.1 hst (by simpa [JFrame.monitorRoom] using hc) d hf
theorem blindR {av : List Value} {wi : va_W} : FrameBlind (va_Pc av (StR D cI cB cS wi)) := fun a U g mk q => ⟨q.1, q.2.1, q.2.2.calling g mk a⟩
theorem blindM {av : List Value} {wi : va_W} {sz : Nat} : FrameBlind (va_Pc av (StM D cI cB cS wi sz)) := fun a U g mk q => ⟨q.1, q.2.1, q.2.2.1, q.2.2.2.1.calling g mk a, q.2.2.2.2⟩
/-- a reading method on an object: the answer has Po -/
theorem v_callRi {Po : Int32 → Prop} (C : Cx p s m meth c D cI cB cS cc nL own ret) (L : LkV own ix Cn y cy ny ry np) (hM : Ri l y cy ny ry fr lo D cI cB cS (.ref b :: As) wc Po) (hR : fr + 1 ≤ R.frames ∧ 8 + (ny + 11) + lo ≤ R.locals) (d : decode cc pc = .ok (.invokevirtual ix, 3)) (is : List Nat) (hs : is.filterMap (fun i => ws[i]?) = wc) (q0 : Nat) {ci N : Nat} {T : u_T} {fs : List Value} (he : ws[q0]? = some (b, .inr (ci, fs))) (hcl : vwCl[ci]? = some (Cn, T, N)) (hn : As.length = np) (hst : st = As.reverse ++ .ref b :: rest) (hc : (rest.map fun v => v.category).sum ≤ 8) (hf : mc ≤ R.cells ∧ ms ≤ R.slots)
    (kk : ∀ r : Int32, Po r → V p l e R s m args below meth c D I Q mc ms nL ws lv (pc + 3) (.int r :: rest)) : V p l e R s m args below meth c D I Q mc ms nL ws lv pc st := by
  intro H locs ls hP hI hl
  have hPc := hP.sub is hs
  exact vp_callSi (runV' C L hM hR ⟨blindR, va_recv C.2.2.2.2.2.2.2 hP hcl he, fun U hU hW => ⟨rfl, by rw [hU]; exact hPc, Wd.warm hW ⟨C.2.2.2.2.2.2.1, C.2.2.2.2.2.2.2⟩⟩⟩ hn hl hst hc d hf).run (fun r hr => kk r hr H locs ls hP hI hl)
theorem v_callRl {Po : Int64 → Prop} (C : Cx p s m meth c D cI cB cS cc nL own ret) (L : LkV own ix Cn y cy ny (some .long) np) (hM : Rl l y cy ny fr lo D cI cB cS (.ref b :: As) wc Po) (hR : fr + 1 ≤ R.frames ∧ 8 + (ny + 11) + lo ≤ R.locals) (d : decode cc pc = .ok (.invokevirtual ix, 3)) (is : List Nat) (hs : is.filterMap (fun i => ws[i]?) = wc) (q0 : Nat) {ci N : Nat} {T : u_T} {fs : List Value} (he : ws[q0]? = some (b, .inr (ci, fs))) (hcl : vwCl[ci]? = some (Cn, T, N)) (hn : As.length = np) (hst : st = As.reverse ++ .ref b :: rest) (hc : (rest.map fun v => v.category).sum ≤ 8) (hf : mc ≤ R.cells ∧ ms ≤ R.slots)
    (kk : ∀ r : Int64, Po r → V p l e R s m args below meth c D I Q mc ms nL ws lv (pc + 3) (.long r :: rest)) : V p l e R s m args below meth c D I Q mc ms nL ws lv pc st := by
  intro H locs ls hP hI hl
  have hPc := hP.sub is hs
  exact vp_callSl (runV' C L hM hR ⟨blindR, va_recv C.2.2.2.2.2.2.2 hP hcl he, fun U hU hW => ⟨rfl, by rw [hU]; exact hPc, Wd.warm hW ⟨C.2.2.2.2.2.2.1, C.2.2.2.2.2.2.2⟩⟩⟩ hn hl hst hc d hf).run (fun r hr => kk r hr H locs ls hP hI hl)
/-- a reading static method -/
theorem v_callSi {Po : Int32 → Prop} (C : Cx p s m meth c D cI cB cS cc nL own ret) (L : LkS own ix y cy ny ry np) (hM : Ri l y cy ny ry fr lo D cI cB cS As wc Po) (hR : fr + 1 ≤ R.frames ∧ 8 + (ny + 11) + lo ≤ R.locals) (d : decode cc pc = .ok (.invokestatic ix, 3)) (is : List Nat) (hs : is.filterMap (fun i => ws[i]?) = wc) (hn : As.length = np) (hst : st = As.reverse ++ rest) (hc : (rest.map fun v => v.category).sum ≤ 8) (hf : mc ≤ R.cells ∧ ms ≤ R.slots)
    (kk : ∀ r : Int32, Po r → V p l e R s m args below meth c D I Q mc ms nL ws lv (pc + 3) (.int r :: rest)) : V p l e R s m args below meth c D I Q mc ms nL ws lv pc st := by
  intro H locs ls hP hI hl
  have hPc := hP.sub is hs
  exact vp_callSi (runS' C L hM hR ⟨blindR, fun U hU hW => ⟨rfl, by rw [hU]; exact hPc, Wd.warm hW ⟨C.2.2.2.2.2.2.1, C.2.2.2.2.2.2.2⟩⟩⟩ hn hl hst hc d hf).run (fun r hr => kk r hr H locs ls hP hI hl)
theorem v_callSl {Po : Int64 → Prop} (C : Cx p s m meth c D cI cB cS cc nL own ret) (L : LkS own ix y cy ny (some .long) np) (hM : Rl l y cy ny fr lo D cI cB cS As wc Po) (hR : fr + 1 ≤ R.frames ∧ 8 + (ny + 11) + lo ≤ R.locals) (d : decode cc pc = .ok (.invokestatic ix, 3)) (is : List Nat) (hs : is.filterMap (fun i => ws[i]?) = wc) (hn : As.length = np) (hst : st = As.reverse ++ rest) (hc : (rest.map fun v => v.category).sum ≤ 8) (hf : mc ≤ R.cells ∧ ms ≤ R.slots)
    (kk : ∀ r : Int64, Po r → V p l e R s m args below meth c D I Q mc ms nL ws lv (pc + 3) (.long r :: rest)) : V p l e R s m args below meth c D I Q mc ms nL ws lv pc st := by
  intro H locs ls hP hI hl
  have hPc := hP.sub is hs
  exact vp_callSl (runS' C L hM hR ⟨blindR, fun U hU hW => ⟨rfl, by rw [hU]; exact hPc, Wd.warm hW ⟨C.2.2.2.2.2.2.1, C.2.2.2.2.2.2.2⟩⟩⟩ hn hl hst hc d hf).run (fun r hr => kk r hr H locs ls hP hI hl)
/-- a mutating method on an object: its cells (isC) come back behind the others (isR) -/
theorem v_callMi {Po : Int32 → va_W → Prop} (C : Cx p s m meth c D cI cB cS cc nL own ret) (L : LkV own ix Cn y cy ny ry np) (hM : Mi l y cy ny ry fr lo D cI cB cS (.ref b :: As) wc Po) (hR : fr + 1 ≤ R.frames ∧ 8 + (ny + 11) + lo ≤ R.locals) (d : decode cc pc = .ok (.invokevirtual ix, 3)) (isC isR : List Nat) (hnC : va_nd isC = true) (hs : isC.map (fun i => ws[i]?) = wc.map some) (hr : isR.map (fun i => ws[i]?) = wr.map some) (hnR : va_nd isR = true) (hdis : ∀ i ∈ isR, i ∉ isC) (q0 : Nat) {ci N : Nat} {T : u_T} {fs : List Value} (he : ws[q0]? = some (b, .inr (ci, fs))) (hcl : vwCl[ci]? = some (Cn, T, N)) (hn : As.length = np) (hst : st = As.reverse ++ .ref b :: rest) (hc : (rest.map fun v => v.category).sum ≤ 8) (hf : mc ≤ R.cells ∧ ms ≤ R.slots)
    (kk : ∀ (r : Int32) (w : va_W), Po r w → V p l e R s m args below meth c D (IM A s) Q mc ms nL (wr ++ w) lv (pc + 3) (.int r :: rest)) : V p l e R s m args below meth c D (IM A s) Q mc ms nL ws lv pc st := by
  intro H locs ls hP hI hl
  obtain ⟨hD, hS, hA⟩ := hI
  have hs' : isC.filterMap (fun i => ws[i]?) = wc := by
    have e : isC.filterMap (fun i => ws[i]?) = (isC.map (fun i => ws[i]?)).filterMap id := by rw [List.filterMap_map]; rfl
    rw [e, hs, List.filterMap_map]; simp
  have hPc := hP.sub isC hs'
  have hDc := hD.sub isC hnC hs
  have hFc := va_free (wc := wc) hD hS hA isC hs
  refine va_calli (runV' C L (hM H.size) hR ⟨blindM, va_recv C.2.2.2.2.2.2.2 hP hcl he, fun U hU hW => ⟨rfl, by rw [hU], by rw [hU]; exact hPc, Wd.warm hW ⟨C.2.2.2.2.2.2.1, C.2.2.2.2.2.2.2⟩, hDc.weaken (fun _ _ _ _ => trivial)⟩⟩ hn hl hst hc d hf) hS (fun q _ h => hFc q h) hFc (fun r u t H1 locs1 ht hvm hw hB hz1 hk1 hS1 => ?_)
  obtain ⟨hP1, hK1, hD1⟩ := hB
  rw [ht] at hP1
  obtain ⟨hP2, hD2⟩ := va_join hP hD isC isR hs hr hnR hdis hk1 hFc hP1 hD1
  exact kk r u hw H1 locs1 ls hP2 ⟨hD2, hS1, hA⟩ hl
theorem v_callMv {Po : va_W → Prop} (C : Cx p s m meth c D cI cB cS cc nL own ret) (L : LkV own ix Cn y cy ny none np) (hM : Mv l y cy ny fr lo D cI cB cS (.ref b :: As) wc Po) (hR : fr + 1 ≤ R.frames ∧ 8 + (ny + 11) + lo ≤ R.locals) (d : decode cc pc = .ok (.invokevirtual ix, 3)) (isC isR : List Nat) (hnC : va_nd isC = true) (hs : isC.map (fun i => ws[i]?) = wc.map some) (hr : isR.map (fun i => ws[i]?) = wr.map some) (hnR : va_nd isR = true) (hdis : ∀ i ∈ isR, i ∉ isC) (q0 : Nat) {ci N : Nat} {T : u_T} {fs : List Value} (he : ws[q0]? = some (b, .inr (ci, fs))) (hcl : vwCl[ci]? = some (Cn, T, N)) (hn : As.length = np) (hst : st = As.reverse ++ .ref b :: rest) (hc : (rest.map fun v => v.category).sum ≤ 8) (hf : mc ≤ R.cells ∧ ms ≤ R.slots)
    (kk : ∀ (w : va_W), Po w → V p l e R s m args below meth c D (IM A s) Q mc ms nL (wr ++ w) lv (pc + 3) rest) : V p l e R s m args below meth c D (IM A s) Q mc ms nL ws lv pc st := by
  intro H locs ls hP hI hl
  obtain ⟨hD, hS, hA⟩ := hI
  have hs' : isC.filterMap (fun i => ws[i]?) = wc := by
    have e : isC.filterMap (fun i => ws[i]?) = (isC.map (fun i => ws[i]?)).filterMap id := by rw [List.filterMap_map]; rfl
    rw [e, hs, List.filterMap_map]; simp
  have hPc := hP.sub isC hs'
  have hDc := hD.sub isC hnC hs
  have hFc := va_free (wc := wc) hD hS hA isC hs
  refine va_callv (runV' C L (hM H.size) hR ⟨blindM, va_recv C.2.2.2.2.2.2.2 hP hcl he, fun U hU hW => ⟨rfl, by rw [hU], by rw [hU]; exact hPc, Wd.warm hW ⟨C.2.2.2.2.2.2.1, C.2.2.2.2.2.2.2⟩, hDc.weaken (fun _ _ _ _ => trivial)⟩⟩ hn hl hst hc d hf) hS (fun q _ h => hFc q h) hFc (fun u t H1 locs1 ht hvm hw hB hz1 hk1 hS1 => ?_)
  obtain ⟨hP1, hK1, hD1⟩ := hB
  rw [ht] at hP1
  obtain ⟨hP2, hD2⟩ := va_join hP hD isC isR hs hr hnR hdis hk1 hFc hP1 hD1
  exact kk u hw H1 locs1 ls hP2 ⟨hD2, hS1, hA⟩ hl
theorem v_callMl {Po : Int64 → va_W → Prop} (C : Cx p s m meth c D cI cB cS cc nL own ret) (L : LkV own ix Cn y cy ny (some .long) np) (hM : Ml l y cy ny fr lo D cI cB cS (.ref b :: As) wc Po) (hR : fr + 1 ≤ R.frames ∧ 8 + (ny + 11) + lo ≤ R.locals) (d : decode cc pc = .ok (.invokevirtual ix, 3)) (isC isR : List Nat) (hnC : va_nd isC = true) (hs : isC.map (fun i => ws[i]?) = wc.map some) (hr : isR.map (fun i => ws[i]?) = wr.map some) (hnR : va_nd isR = true) (hdis : ∀ i ∈ isR, i ∉ isC) (q0 : Nat) {ci N : Nat} {T : u_T} {fs : List Value} (he : ws[q0]? = some (b, .inr (ci, fs))) (hcl : vwCl[ci]? = some (Cn, T, N)) (hn : As.length = np) (hst : st = As.reverse ++ .ref b :: rest) (hc : (rest.map fun v => v.category).sum ≤ 8) (hf : mc ≤ R.cells ∧ ms ≤ R.slots)
    (kk : ∀ (r : Int64) (w : va_W), Po r w → V p l e R s m args below meth c D (IM A s) Q mc ms nL (wr ++ w) lv (pc + 3) (.long r :: rest)) : V p l e R s m args below meth c D (IM A s) Q mc ms nL ws lv pc st := by
  intro H locs ls hP hI hl
  obtain ⟨hD, hS, hA⟩ := hI
  have hs' : isC.filterMap (fun i => ws[i]?) = wc := by
    have e : isC.filterMap (fun i => ws[i]?) = (isC.map (fun i => ws[i]?)).filterMap id := by rw [List.filterMap_map]; rfl
    rw [e, hs, List.filterMap_map]; simp
  have hPc := hP.sub isC hs'
  have hDc := hD.sub isC hnC hs
  have hFc := va_free (wc := wc) hD hS hA isC hs
  refine va_calll (runV' C L (hM H.size) hR ⟨blindM, va_recv C.2.2.2.2.2.2.2 hP hcl he, fun U hU hW => ⟨rfl, by rw [hU], by rw [hU]; exact hPc, Wd.warm hW ⟨C.2.2.2.2.2.2.1, C.2.2.2.2.2.2.2⟩, hDc.weaken (fun _ _ _ _ => trivial)⟩⟩ hn hl hst hc d hf) hS (fun q _ h => hFc q h) hFc (fun r u t H1 locs1 ht hvm hw hB hz1 hk1 hS1 => ?_)
  obtain ⟨hP1, hK1, hD1⟩ := hB
  rw [ht] at hP1
  obtain ⟨hP2, hD2⟩ := va_join hP hD isC isR hs hr hnR hdis hk1 hFc hP1 hD1
  exact kk r u hw H1 locs1 ls hP2 ⟨hD2, hS1, hA⟩ hl
/-- Arrays.fill: a static method that changes one row -/
theorem v_callSv {Po : va_W → Prop} (C : Cx p s m meth c D cI cB cS cc nL own ret) (L : LkS own ix y cy ny none np) (hM : Mv l y cy ny fr lo D cI cB cS As wc Po) (hR : fr + 1 ≤ R.frames ∧ 8 + (ny + 11) + lo ≤ R.locals) (d : decode cc pc = .ok (.invokestatic ix, 3)) (isC isR : List Nat) (hnC : va_nd isC = true) (hs : isC.map (fun i => ws[i]?) = wc.map some) (hr : isR.map (fun i => ws[i]?) = wr.map some) (hnR : va_nd isR = true) (hdis : ∀ i ∈ isR, i ∉ isC) (hn : As.length = np) (hst : st = As.reverse ++ rest) (hc : (rest.map fun v => v.category).sum ≤ 8) (hf : mc ≤ R.cells ∧ ms ≤ R.slots)
    (kk : ∀ (w : va_W), Po w → V p l e R s m args below meth c D (IM A s) Q mc ms nL (wr ++ w) lv (pc + 3) rest) : V p l e R s m args below meth c D (IM A s) Q mc ms nL ws lv pc st := by
  intro H locs ls hP hI hl
  obtain ⟨hD, hS, hA⟩ := hI
  have hs' : isC.filterMap (fun i => ws[i]?) = wc := by
    have e : isC.filterMap (fun i => ws[i]?) = (isC.map (fun i => ws[i]?)).filterMap id := by rw [List.filterMap_map]; rfl
    rw [e, hs, List.filterMap_map]; simp
  have hPc := hP.sub isC hs'
  have hDc := hD.sub isC hnC hs
  have hFc := va_free (wc := wc) hD hS hA isC hs
  refine va_callv (runS' C L (hM H.size) hR ⟨blindM, fun U hU hW => ⟨rfl, by rw [hU], by rw [hU]; exact hPc, Wd.warm hW ⟨C.2.2.2.2.2.2.1, C.2.2.2.2.2.2.2⟩, hDc.weaken (fun _ _ _ _ => trivial)⟩⟩ hn hl hst hc d hf) hS (fun q _ h => hFc q h) hFc (fun u t H1 locs1 ht hvm hw hB hz1 hk1 hS1 => ?_)
  obtain ⟨hP1, hK1, hD1⟩ := hB
  rw [ht] at hP1
  obtain ⟨hP2, hD2⟩ := va_join hP hD isC isR hs hr hnR hdis hk1 hFc hP1 hD1
  exact kk u hw H1 locs1 ls hP2 ⟨hD2, hS1, hA⟩ hl
/-- Math.max -/
theorem v_max (C : Cx p s m meth c D cI cB cS cc nL own ret) (L : Cond.methodLink own ix yJ9_max_7cf53 ∈ tbl ∧ Cond.static yJ9_max_7cf53 ∈ tbl ∧ Cond.initialized "java/lang/Math" ∈ tbl ∧ Cond.code yJ9_max_7cf53 cJ9_max_7cf53 2 (some .int) ∈ tbl) (d : decode cc pc = .ok (.invokestatic ix, 3)) (hfr : 1 ≤ R.frames) (hlo : (rest.map fun v => v.category).sum + 13 ≤ R.locals) (hmc : mc ≤ R.cells) (hms : ms ≤ R.slots) {x y : Int32}
    (kk : V p l e R s m args below meth c D I Q mc ms nL ws lv (pc + 3) (.int (if x < y then y else x) :: rest)) : V p l e R s m args below meth c D I Q mc ms nL ws lv pc (.int y :: .int x :: rest) := by
  intro H locs ls hP hI hl
  obtain ⟨h1, h2, h4, h5⟩ := L
  obtain ⟨hex, hb, hml, hown, -, -, hts, hK⟩ := C
  exact va_mmax hex hb (hml.trans hl.1.symm) hown (hts _ h1 _) (hts _ h2 _) (hts _ h4 _) (hts _ h5 _) hfr hlo hmc hms d (kk H locs ls hP hI hl)
/-- System.arraycopy between rows of ints -/
theorem v_copy (C : Cx p s m meth c D cI cB cS cc nL own ret) (hw1 : Cond.methodLink own ix arraycopyName ∈ tbl) (hw2 : Cond.native arraycopyName ∈ tbl) (hw3 : Cond.static arraycopyName ∈ tbl) (hw4 : Cond.initialized "java/lang/System" ∈ tbl) (ws' : va_W) (d : decode cc pc = .ok (.invokestatic ix, 3)) (q0 q1 : Nat) {a0 a1 n0 n1 : Nat} {f g : Nat → Int32} (ha0 : ws[q0]? = some (a0, .inl (cI, n0, .inl f))) (ha1 : ws[q1]? = some (a1, .inl (cI, n1, .inl g))) {x y z : Int32} (sp dp n : Nat) (hx : x = nI sp) (hy : y = nI dp) (hz : z = nI n) (h0 : sp + n ≤ n0) (h1 : dp + n ≤ n1) (hb0 : n0 < 2 ^ 31) (hb1 : n1 < 2 ^ 31) (hfr : 1 ≤ R.frames) (hlo : (rest.map fun v => v.category).sum + (nativeFrameWords "java/lang/System" "arraycopy" 5 + 11) ≤ R.locals) (hw : ws.set q1 (a1, .inl (cI, n1, .inl (va_cpy f g sp dp n))) = ws')
    (kk : V p l e R s m args below meth c D (IM A s) Q mc ms nL ws' lv (pc + 3) rest) : V p l e R s m args below meth c D (IM A s) Q mc ms nL ws lv pc (.int z :: .int y :: .ref a1 :: .int x :: .ref a0 :: rest) := by
  intro H locs ls hP hI hl
  subst hw
  obtain ⟨hD, hS, hA⟩ := hI
  obtain ⟨hex, hb, hml, hown, -, -, hts, hK⟩ := C
  have ex : x.toNatClampNeg = sp := by rw [hx, nI_clamp (by omega)]
  have ey : y.toNatClampNeg = dp := by rw [hy, nI_clamp (by omega)]
  have ez : z.toNatClampNeg = n := by rw [hz, nI_clamp (by omega)]
  refine va_copyi hex hb (hml.trans hl.1.symm) hown (hts _ hw1 _) (hts _ hw2 _) (hts _ hw3 _) (hts _ hw4 _) hK hP hD hS q0 q1 0 0 ha0 ha1 rfl rfl rfl (by rw [hx]; exact nI_pos (by omega)) (by rw [hy]; exact nI_pos (by omega)) (by rw [hz]; exact nI_pos (by omega)) (by rw [ex, ez]; exact h0) (by rw [ey, ez]; exact h1) (fun _ _ => rfl) hfr hlo d (fun H1 locs1 hP1 hD1 hS1 => ?_)
  rw [ex, ey, ez] at hP1 hD1
  exact kk H1 locs1 ls hP1 ⟨hD1, hS1, hA⟩ hl
end CallRows
