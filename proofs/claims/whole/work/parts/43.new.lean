/-! rows for what is made anew -/
section NewRows
variable {p : Program} {l : Launch} {e : Env} {R : Room} {s : State} {m : MethodId} {args : Array Value} {below : List Frame} {meth : Method} {c : Code} {D : va_G} {Q : State → Prop} {mc ms nL : Nat} {ws : va_W} {lv : List (Nat × Value)} {pc : Nat} {st : List Value} {cI cB cS : ClassId} {cc : ByteArray} {own : String} {ret : Option FieldType} {A : Nat → Prop}
theorem v_newI (C : Cx p s m meth c D cI cB cS cc nL own ret) (hw : Cond.arrayClass .int ∈ tbl) (N : Nat) {n : Int32} (d : decode cc pc = .ok (.newarray .int, 2)) (hn : ¬ n < 0) (hN : n.toNatClampNeg = N) (hb : N * 4 ≤ 536870912) (hc : mc + 1 ≤ R.cells) (hs : ms + N ≤ R.slots) (kk : ∀ q, V p l e R s m args below meth c D (IM A s) Q (mc + 1) (ms + N) nL (ws ++ [ia q cI N (fun _ => 0)]) lv (pc + 2) (.ref q :: st)) : V p l e R s m args below meth c D (IM A s) Q mc ms nL ws lv pc (.int n :: st) := by
  intro H locs ls hP hI hl
  obtain ⟨hx, hb0, -, hown, -, -, hts, hK⟩ := C
  refine va_newa hx hb0 (atype := .int) (hts _ hw args) rfl hK hP hI.1 hI.2.1 hI.2.2 (a0 := (N, .inl (fun _ => 0))) (fun cA => rfl) hn hN hb hc hs d (fun q cA H1 hK1 hP1 hD1 hS1 => ?_)
  have e1 := (hK1.2 3 _ rfl).2
  have e2 := (hK.2 0 _ rfl).2
  have e3 : cA = cI := Option.some.inj (e1.symm.trans e2)
  subst e3
  exact kk q H1 locs ls hP1 ⟨hD1, hS1, hI.2.2⟩ hl
theorem v_newB (C : Cx p s m meth c D cI cB cS cc nL own ret) (hw : Cond.arrayClass .boolean ∈ tbl) (N : Nat) {n : Int32} (d : decode cc pc = .ok (.newarray .boolean, 2)) (hn : ¬ n < 0) (hN : n.toNatClampNeg = N) (hb : N * 1 ≤ 536870912) (hc : mc + 1 ≤ R.cells) (hs : ms + N ≤ R.slots) (kk : ∀ q, V p l e R s m args below meth c D (IM A s) Q (mc + 1) (ms + N) nL (ws ++ [ia q cB N (fun _ => 0)]) lv (pc + 2) (.ref q :: st)) : V p l e R s m args below meth c D (IM A s) Q mc ms nL ws lv pc (.int n :: st) := by
  intro H locs ls hP hI hl
  obtain ⟨hx, hb0, -, hown, -, -, hts, hK⟩ := C
  refine va_newa hx hb0 (atype := .boolean) (hts _ hw args) rfl hK hP hI.1 hI.2.1 hI.2.2 (a0 := (N, .inl (fun _ => 0))) (fun cA => rfl) hn hN hb hc hs d (fun q cA H1 hK1 hP1 hD1 hS1 => ?_)
  have e1 := (hK1.2 3 _ rfl).2
  have e2 := (hK.2 1 _ rfl).2
  have e3 : cA = cB := Option.some.inj (e1.symm.trans e2)
  subst e3
  exact kk q H1 locs ls hP1 ⟨hD1, hS1, hI.2.2⟩ hl
theorem v_objI (C : Cx p s m meth c D cI cB cS cc nL own ret) {I : va_W → Heap → List Loc → Prop} {ix a : Nat} (h1 : Cond.methodLink own ix Lib.objectInit ∈ tbl) (h2 : Cond.instanceMethod Lib.objectInit ∈ tbl) (h3 : Cond.code Lib.objectInit ⟨#[0xb1]⟩ 1 none ∈ tbl) (d : decode cc pc = .ok (.invokespecial ix, 3)) (hR : 1 ≤ R.frames ∧ (st.map fun v => v.category).sum + 12 ≤ R.locals) (kk : V p l e R s m args below meth c D I Q mc ms nL ws lv (pc + 3) st) : V p l e R s m args below meth c D I Q mc ms nL ws lv pc (.ref a :: st) := by
  intro H locs ls hP hI hl
  obtain ⟨hx, hb0, hml, hown, -, -, hts, hK⟩ := C
  exact W.objInit hx hb0 hown (hts _ h1 args) (hts _ h2 args) (hts _ h3 args) rfl (hl.1.trans hml.symm) rfl d hR.1 (by simpa [JFrame.monitorRoom] using hR.2) (kk H locs ls hP hI hl)
def FPf (own : String) (ix ci k : Nat) (ty : FieldType) : Prop := ∃ (C : String) (T : u_T) (N : Nat) (ty0 : Nat → FieldType), vwCl[ci]? = some (C, T, N) ∧ k < N ∧ (∀ w ∈ u_ws C T N, w ∈ tbl) ∧ (Cond.fieldLink own ix (T k).1 (T k).2.1 (T k).2.2.1 ∈ tbl) ∧
  (∀ k, k < N → parseFieldDescriptor (T k).2.2.1 = some (ty0 k)) ∧ (∀ a, a < N → ∀ b, b < N → a ≠ b → (T a).2.1 ≠ (T b).2.1) ∧ (T k).2.2.2 = true ∧ (T k).1 = own ∧ parseFieldDescriptor (T k).2.2.1 = some ty
theorem v_putF (C : Cx p s m meth c D cI cB cS cc nL own ret) (hnm : meth.name = "<init>") {ix ci k a : Nat} {ty : FieldType} (L : FPf own ix ci k ty) (ws' : va_W) (d : decode cc pc = .ok (.putfield ix, 3)) (q0 : Nat) {fs : List Value} (he : ws[q0]? = some (a, .inr (ci, fs))) {v : Value} (hn : narrow ty v = v) (hf : fits ty v = true) (hk : k < fs.length) (hw : ws.set q0 (a, .inr (ci, fs.set k v)) = ws') (kk : V p l e R s m args below meth c D (IM A s) Q mc ms nL ws' lv (pc + 3) st) : V p l e R s m args below meth c D (IM A s) Q mc ms nL ws lv pc (v :: .ref a :: st) := by
  intro H locs ls hP hI hl
  subst hw
  obtain ⟨Cn, T, N, ty0, h1, h2, h3, h4, h5, h6, h7, h9, h8⟩ := L
  obtain ⟨hx, hb, -, hown, -, -, hts, hK⟩ := C
  have hts' : ∀ w ∈ tbl, w.before args s = true := fun w h => hts w h args
  obtain ⟨hD, hS, hA⟩ := hI
  exact va_putF hx hb hts' h3 ty0 h5 h6 hown hK hP hD hS q0 he h1 k h2 (hts' _ h4) (fun _ h => h) h7 hnm h9 h8 hn hf hk d (fun H1 locs1 hP hD hS => kk H1 locs1 ls hP ⟨hD, hS, hA⟩ hl)
def NL (own : String) (ix ci N : Nat) (fs : List Value) : Prop := ∃ (C : String) (T : u_T) (ty0 : Nat → FieldType), vwCl[ci]? = some (C, T, N) ∧ (∀ w ∈ u_ws C T N, w ∈ tbl) ∧ (∀ k, k < N → parseFieldDescriptor (T k).2.2.1 = some (ty0 k)) ∧ Cond.classLink own ix C ∈ tbl ∧ Cond.instantiable C N ∈ tbl ∧ Cond.initialized C ∈ tbl ∧ ∀ j, j < N → defaultValue (ty0 j) = vp_V fs j
theorem v_newO (C : Cx p s m meth c D cI cB cS cc nL own ret) {ix ci N : Nat} {fs : List Value} (L : NL own ix ci N fs) (d : decode cc pc = .ok (.new ix, 3)) (hc : mc + 1 ≤ R.cells) (hs : ms + N ≤ R.slots) (kk : ∀ q, V p l e R s m args below meth c D (IM A s) Q (mc + 1) (ms + N) nL (ws ++ [(q, .inr (ci, fs))]) lv (pc + 3) (.ref q :: st)) : V p l e R s m args below meth c D (IM A s) Q mc ms nL ws lv pc st := by
  intro H locs ls hP hI hl
  obtain ⟨Cn, T, ty0, h1, h2, h3, h4, h5, h6, h7⟩ := L
  obtain ⟨hx, hb, -, hown, -, -, hts, hK⟩ := C
  have hts' : ∀ w ∈ tbl, w.before args s = true := fun w h => hts w h args
  exact va_new hx hb hts' h2 ty0 h3 hown (hts' _ h4) (hts' _ h5) (hts' _ h6) hK hP hI.1 hI.2.1 hI.2.2 h1 h7 hc hs d (fun q H1 hP1 hD1 hS1 => kk q H1 locs ls hP1 ⟨hD1, hS1, hI.2.2⟩ hl)
abbrev rmC (fr lo cs ss : Nat) : Room := { frames := fr, cells := cs, slots := ss, locals := lo }
/-- a constructor: makes cs cells of ss slots -/
def Mc (l : Launch) (y : MethodName) (cc : ByteArray) (n fr lo cs ss : Nat) (D : va_G) (cI cB cS : ClassId) (av : List Value) (wi : va_W) (Po : va_W → Prop) : Prop :=
  ∀ sz, Met l y [.code y cc n none] (rmC fr lo cs ss) (va_Pc av (StM D cI cB cS wi sz)) (va_Qv Po (EnM D cI cB cS wi sz) (va_A wi sz)) cs ss (va_A wi sz)
abbrev QMc (below : List Frame) (a : Array Value) (s : State) (D : va_G) (cI cB cS : ClassId) (wi : va_W) (sz cs ss : Nat) (Po : va_W → Prop) : State → Prop := MQ below (va_Qv Po (EnM D cI cB cS wi sz) (va_A wi sz)) a s cs ss (va_A wi sz)
theorem Mc.of {y : MethodName} {n fr lo cs ss : Nat} {av : List Value} {wi : va_W} {Po : va_W → Prop} (hy : plainName y.cls = true) (hn : (lg_sl av).length ≤ n)
    (body : ∀ (p : Program) (e : Env) (s : State) (m : MethodId) (below : List Frame) (meth : Method) (c : Code) (sz : Nat) (A : Nat → Prop), A = va_A wi sz → Cx p s m meth c D cI cB cS cc n y.cls none → (y.name = meth.name) →
      V p l e (rmC fr lo cs ss) s m av.toArray below meth c D (IM A s) (QMc below av.toArray s D cI cB cS wi sz cs ss Po) 0 0 n wi (lv_args 0 av) 0 []) : Mc l y cc n fr lo cs ss D cI cB cS av wi Po := by
  intro sz
  refine Met.ofW (cc := cc) (maxL := n) (ret := none) hy rfl ?_
  intro p e s m args below meth c s₁ B hml hv
  obtain ⟨rfl, hsz, hP, hW, hD0⟩ := hv
  subst hsz
  have hl := lv_entry av (n := n) hn
  rw [lg_entry_eq]
  exact body p e s m below meth c s.heap.size _ rfl ⟨B.exec, B.bytes, hml, findClass_of_methodNamed B.named, B.returns, B.notSynchronized, hW.1, hW.2⟩ (name_of_methodNamed B.named B.method).1.symm s.heap [] _ hP ⟨hD0.self, va_S.rf, fun q h => Or.inr h⟩ hl
theorem v_retc {wi : va_W} {sz : Nat} {Po : va_W → Prop} (C : Cx p s m meth c D cI cB cS cc nL own none) (hA : A = va_A wi sz) (d : decode cc pc = .ok (.return_, 1)) (h : Po ws) : V p l e R s m args below meth c D (IM A s) (QMc below args s D cI cB cS wi sz mc ms Po) mc ms nL ws lv pc [] := by
  intro H locs ls hP hI hl
  subst hA
  exact W.vret C.1 C.2.1 C.2.2.2.2.1 (fun t ht hW => ⟨⟨ws, rfl, h, by rw [ht]; exact hP, Wd.warm hW ⟨C.2.2.2.2.2.2.1, C.2.2.2.2.2.2.2⟩, hI.1⟩, hI.2.1.F ht⟩) hI.2.1.2.2 d C.2.2.2.2.2.1
def LkC (own : String) (ix : Nat) (y : MethodName) (cc : ByteArray) (n : Nat) (np : Nat) : Prop :=
  (Cond.methodLink own ix y ∈ tbl ∨ ∃ host, Cond.methodLinkNest own ix y host ∈ tbl) ∧ Cond.instanceMethod y ∈ tbl ∧ Cond.initialized y.cls ∈ tbl ∧ Cond.code y cc n none ∈ tbl ∧ y.cls ≠ "java/lang/invoke/MethodHandle" ∧ y.cls ≠ "java/lang/invoke/VarHandle" ∧ (parseMethodDescriptor y.desc).map (fun d => d.parameters.length) = some np ∧ y.name = "<init>"
theorem runC' {y : MethodName} {cy : ByteArray} {ny np fr lo cs ss ix b : Nat} {As rest : List Value} {H : Heap} {locs : List Loc} {ls : Array Slot} {Pc : Array Value → State → Prop} {Qc : Array Value → State → Outcome → State → Prop} {free : Addr → Prop} (C : Cx p s m meth c D cI cB cS cc nL own ret) (L : LkC own ix y cy ny np) (hM : Met l y [.code y cy ny none] (rmC fr lo cs ss) Pc Qc cs ss free) (hR : fr + 1 ≤ R.frames ∧ 8 + (ny + 11) + lo ≤ R.locals) (hp : PreS s H Pc (.ref b :: As)) (hn : As.length = np) (hl : lv_has ls nL lv) (hst : st = As.reverse ++ .ref b :: rest) (hc : (rest.map fun v => v.category).sum ≤ 8) (d : decode cc pc = .ok (.invokespecial ix, 3)) (hf : mc + cs ≤ R.cells ∧ ms + ss ≤ R.slots) :
    va_Run p l e R s m args below meth c H locs mc ms cs ss (F0 m pc ls st) rest (Qc (Value.ref b :: As).toArray) free := by
  obtain ⟨h1, h2, h4, h5, h6, h7, h8, h9⟩ := L
  obtain ⟨hx, hb, hml, hown, -, -, hts, hK⟩ := C
  have hlen : ∀ sig, parseMethodDescriptor y.desc = some sig → np = sig.parameters.length := by
    intro sig h
    rw [h] at h8
    exact (Option.some.inj h8).symm
  have hS : CallFix p m c cc nL s args tbl own := ⟨hx, hb, hml, hown, fun w h => hts w h args⟩
  rcases h1 with h1 | ⟨host, h1⟩
  · exact va_runI hS hM ⟨⟨rfl, rfl, hR.1, hR.2, code_good hts h5, List.mem_singleton.mpr rfl, hts _ h5 args, hts _ h4 args, ⟨h6, h7⟩, hlen, hts _ h1 args⟩, h9, hts _ h2 args⟩ hp rfl hn hl.1 hst (by simpa [JFrame.monitorRoom] using hc) d hf
  · exact va_runIN hS hM ⟨⟨⟨rfl, rfl, hR.1, hR.2, code_good hts h5, List.mem_singleton.mpr rfl⟩, hts _ h5 args, hts _ h4 args, ⟨h6, h7⟩, hlen, hts _ h1 args⟩, h9, hts _ h2 args⟩ hp rfl hn hl.1 hst (by simpa [JFrame.monitorRoom] using hc) d hf
theorem v_callC {y : MethodName} {cy : ByteArray} {ny np fr lo cs ss ix b : Nat} {As rest : List Value} {wc wr : va_W} {Po : va_W → Prop} (C : Cx p s m meth c D cI cB cS cc nL own ret) (L : LkC own ix y cy ny np) (hM : Mc l y cy ny fr lo cs ss D cI cB cS (.ref b :: As) wc Po) (hR : fr + 1 ≤ R.frames ∧ 8 + (ny + 11) + lo ≤ R.locals) (d : decode cc pc = .ok (.invokespecial ix, 3)) (isC isR : List Nat) (hnC : va_nd isC = true) (hs : isC.map (fun i => ws[i]?) = wc.map some) (hr : isR.map (fun i => ws[i]?) = wr.map some) (hnR : va_nd isR = true) (hdis : ∀ i ∈ isR, i ∉ isC) (hn : As.length = np) (hst : st = As.reverse ++ .ref b :: rest) (hc : (rest.map fun v => v.category).sum ≤ 8) (hf : mc + cs ≤ R.cells ∧ ms + ss ≤ R.slots)
    (kk : ∀ (w : va_W), Po w → V p l e R s m args below meth c D (IM A s) Q (mc + cs) (ms + ss) nL (wr ++ w) lv (pc + 3) rest) : V p l e R s m args below meth c D (IM A s) Q mc ms nL ws lv pc st := by
  intro H locs ls hP hI hl
  obtain ⟨hD, hS, hA⟩ := hI
  have hs' : isC.filterMap (fun i => ws[i]?) = wc := by
    have e : isC.filterMap (fun i => ws[i]?) = (isC.map (fun i => ws[i]?)).filterMap id := by rw [List.filterMap_map]; rfl
    rw [e, hs, List.filterMap_map]; simp
  have hPc := hP.sub isC hs'
  have hDc := hD.sub isC hnC hs
  have hFc := va_free (wc := wc) hD hS hA isC hs
  refine va_callv (runC' C L (hM H.size) hR ⟨blindM, fun U hU hW => ⟨rfl, by rw [hU], by rw [hU]; exact hPc, Wd.warm hW ⟨C.2.2.2.2.2.2.1, C.2.2.2.2.2.2.2⟩, hDc.weaken (fun _ _ _ _ => trivial)⟩⟩ hn hl hst hc d hf) hS (fun q _ h => hFc q h) hFc (fun u t H1 locs1 ht hvm hw hB hz1 hk1 hS1 => ?_)
  obtain ⟨hP1, hK1, hD1⟩ := hB
  rw [ht] at hP1
  obtain ⟨hP2, hD2⟩ := va_join hP hD isC isR hs hr hnR hdis hk1 hFc hP1 hD1
  exact kk u hw H1 locs1 ls hP2 ⟨hD2, hS1, hA⟩ hl
theorem v_newQ (C : Cx p s m meth c D cI cB cS cc nL own ret) {ix : Nat} (h1 : Cond.classLink own ix RX1 ∈ tbl) (h2 : Cond.arrayOver (.object RX1) ∈ tbl) (N : Nat) {n : Int32} (d : decode cc pc = .ok (.anewarray ix, 3)) (hn : ¬ n < 0) (hN : n.toNatClampNeg = N) (hb : N * 4 ≤ 536870912) (hc : mc + 1 ≤ R.cells) (hs : ms + N ≤ R.slots) (kk : ∀ q, V p l e R s m args below meth c D (IM A s) Q (mc + 1) (ms + N) nL (ws ++ [(q, .inl (cS, N, .inr (.inr (.inr (.inr (fun _ => none))))))]) lv (pc + 3) (.ref q :: st)) : V p l e R s m args below meth c D (IM A s) Q mc ms nL ws lv pc (.int n :: st) := by
  intro H locs ls hP hI hl
  obtain ⟨hx, hb0, -, hown, -, -, hts, hK⟩ := C
  refine va_newq hx hb0 hown (hts _ h1 args) (va_AO.of (hts _ h2 args)) hK hP hI.1 hI.2.1 hI.2.2 hn hN hb hc hs d (fun q cA H1 hK1 hP1 hD1 hS1 => ?_)
  obtain ⟨_, _, _, _, _, e1⟩ := (hK1.2 3 _ rfl).2
  obtain ⟨_, _, _, _, _, e2⟩ := (hK.2 2 _ rfl).2
  have e3 : cA = cS := Option.some.inj (e1.symm.trans e2)
  subst e3
  exact kk q H1 locs ls hP1 ⟨hD1, hS1, hI.2.2⟩ hl
theorem v_astq (C : Cx p s m meth c D cI cB cS cc nL own ret) (ws' : va_W) (d : decode cc pc = .ok (.aastore, 1)) (q0 qk : Nat) {a n v : Nat} {f : Nat → Option Nat} {vs : List Value} {T : u_T} {N ci : Nat} (ha : ws[q0]? = some (a, .inl (cS, n, .inr (.inr (.inr (.inr f)))))) (hv : ws[qk]? = some (v, .inr (ci, vs))) (hc : vwCl[ci]? = some (RX1, T, N)) {i : Int32} (j : Nat) (hi : i = nI j) (hj : j < n) (hn : n < 2 ^ 31) (hw : ws.set q0 (a, .inl (cS, n, .inr (.inr (.inr (.inr (va_up f j (some v))))))) = ws') (kk : V p l e R s m args below meth c D (IM A s) Q mc ms nL ws' lv (pc + 1) st) : V p l e R s m args below meth c D (IM A s) Q mc ms nL ws lv pc (.ref v :: .int i :: .ref a :: st) := by
  intro H locs ls hP hI hl
  subst hw
  obtain ⟨hx, hb, -, hown, -, -, hts, hK⟩ := C
  refine va_astq hx hb hK hP hI.1 hI.2.1 q0 2 qk ci ha rfl hv hc (by rw [hi]; exact vp_in_nI hj hn) d (fun H1 locs1 hP1 hD1 hS1 => ?_)
  rw [hi, nI_clamp (Nat.lt_trans hj hn)] at hP1 hD1
  exact kk H1 locs1 ls hP1 ⟨hD1, hS1, hI.2.2⟩ hl
end NewRows
