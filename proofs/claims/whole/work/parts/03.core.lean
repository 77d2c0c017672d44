/-! the tables' words, at every state of the run -/
def isNest : Cond → Bool
  | .fieldLinkNest .. => true
  | .methodLinkNest .. => true
  | .arrayOver (.object _) => true
  | _ => false
def tbOk (w : Cond) : Bool := goodWord w || isNest w
def tbl : List Cond := lw_tbl.filter tbOk
theorem tb_kinds : ∀ w ∈ tbl, (goodWord w || isNest w) = true := fun _ h => (List.mem_filter.mp h).2
theorem tb_in {w : Cond} (i : Nat) (h : lw_tbl[i]? = some w) (hk : tbOk w = true) : w ∈ tbl := List.mem_filter.mpr ⟨List.mem_of_getElem? h, hk⟩
def TB (U : State) : Prop := ∀ w ∈ tbl, ∀ a : Array Value, w.before a U = true
theorem TB.warm {s U : State} (hW : s.WarmedH U.vm) (h : TB s) : TB U := by
  intro w hw a
  have hk := tb_kinds w hw
  rw [Bool.or_eq_true] at hk
  rcases hk with hk | hk
  · exact word_at hW (good_of_word hk) (h w hw #[])
  · cases w with
    | fieldLinkNest x i b n d hh => exact va_Nw.use rfl (va_Nw.warmF hW (h _ hw #[]))
    | methodLinkNest x i b hh => exact va_Nw.use rfl (va_Nw.warmM hW (h _ hw #[]))
    | arrayOver t =>
      cases t with
      | object C => exact va_AO.use (va_AO.moved hW.alike (va_AO.of (h _ hw #[])))
      | _ => simp [isNest] at hk
    | _ => simp [isNest] at hk
theorem TB.calling {U : State} (g : JFrame) (mk : MethodId) (a : Array Value) (h : TB U) : TB (U.calling g mk a) := TB.warm (s := U) (State.WarmedH.refl U) h
theorem TB.of {b : Nat} {s : State} (hts0 : ∀ w ∈ lw_tbl, w.before #[Value.ref b] s = true) : TB s := by
  intro w hw a
  have hts : ∀ w ∈ tbl, w.before #[Value.ref b] s = true := fun w h => hts0 w (List.mem_filter.mp h).1
  have hk := tb_kinds w hw
  rw [Bool.or_eq_true] at hk
  rcases hk with hk | hk
  · exact word_at (State.WarmedH.refl s) (good_of_word hk) (hts w hw)
  · cases w with
    | fieldLinkNest x i b n d hh => exact va_Nw.use rfl (va_Nw.of rfl (hts _ hw))
    | methodLinkNest x i b hh => exact va_Nw.use rfl (va_Nw.of rfl (hts _ hw))
    | arrayOver t =>
      cases t with
      | object C => exact va_AO.use (va_AO.of (hts _ hw))
      | _ => simp [isNest] at hk
    | _ => simp [isNest] at hk
abbrev tys3 (cI cB cS : ClassId) : List (ClassId × FieldType) := [(cI, .int), (cB, .boolean), (cS, .object RX1)]
/-- what is known of the tables at a state: their words; classes and array classes -/
def Wd (D : va_G) (cI cB cS : ClassId) (U : State) : Prop := TB U ∧ va_K D vwCl (tys3 cI cB cS) U
theorem Wd.warm {D : va_G} {cI cB cS : ClassId} {s U : State} (hW : s.WarmedH U.vm) (h : Wd D cI cB cS s) : Wd D cI cB cS U := ⟨h.1.warm hW, va_K.moved hW.alike h.2⟩
theorem Wd.calling {D : va_G} {cI cB cS : ClassId} {U : State} (g : JFrame) (mk : MethodId) (a : Array Value) (h : Wd D cI cB cS U) : Wd D cI cB cS (U.calling g mk a) := Wd.warm (s := U) (State.WarmedH.refl U) h
/-! the judgement: from the symbolic world, locals, place and stack the run comes to Q -/
def V (p : Program) (l : Launch) (e : Env) (R : Room) (s : State) (m : MethodId) (args : Array Value) (below : List Frame) (meth : Method) (c : Code) (D : va_G) (I : va_W → Heap → List Loc → Prop) (Q : State → Prop) (mc ms nL : Nat) (ws : va_W) (lv : List (Nat × Value)) (pc : Nat) (st : List Value) : Prop :=
  ∀ (H : Heap) (locs : List Loc) (ls : Array Slot), va_P D vwCl ws H → I ws H locs → lv_has ls nL lv → W p l e R s m args below meth c H locs mc ms Q (F0 m pc ls st)
/-- a mutating method's frame: addresses apart and in A, outside A nothing has changed -/
def IM (A : Nat → Prop) (s : State) : va_W → Heap → List Loc → Prop := fun ws H locs => va_D A ws ∧ va_S A s.heap H locs ∧ ∀ q, s.heap.size ≤ q → A q
/-- a reading method's frame -/
def IR (s : State) : va_W → Heap → List Loc → Prop := fun _ H locs => H = s.heap ∧ locs = []
def Cx (p : Program) (s : State) (m : MethodId) (meth : Method) (c : Code) (D : va_G) (cI cB cS : ClassId) (cc : ByteArray) (nL : Nat) (own : String) (ret : Option FieldType) : Prop :=
  p.tables.exec = Jvm.exec ∧ c.code = cc ∧ c.maxLocals = nL ∧ s.vm.findClass own = some m.cls ∧ meth.sig.returnType = ret ∧ meth.locks = false ∧ TB s ∧ va_K D vwCl (tys3 cI cB cS) s
section CoreRows
variable {p : Program} {l : Launch} {e : Env} {R : Room} {s : State} {m : MethodId} {args : Array Value} {below : List Frame} {meth : Method} {c : Code} {D : va_G} {I : va_W → Heap → List Loc → Prop} {Q : State → Prop} {mc ms nL : Nat} {ws : va_W} {lv : List (Nat × Value)} {pc : Nat} {st : List Value} {cI cB cS : ClassId} {cc : ByteArray} {own : String} {ret : Option FieldType}
theorem v_aload_n (C : Cx p s m meth c D cI cB cS cc nL own ret) {k : Fin 4} {x : Nat} (d : decode cc pc = .ok (.aload_n k, 1)) (q : Nat) (h : lv[q]? = some ((k : Nat), .ref x)) (kk : V p l e R s m args below meth c D I Q mc ms nL ws lv (pc + 1) (.ref x :: st)) : V p l e R s m args below meth c D I Q mc ms nL ws lv pc st :=
  fun H locs ls hP hI hl => lv_aload_n C.1 C.2.1 d rfl (lv_at hl q h) (kk H locs ls hP hI hl)
theorem v_aload (C : Cx p s m meth c D cI cB cS cc nL own ret) {i x : Nat} (d : decode cc pc = .ok (.aload i, 2)) (q : Nat) (h : lv[q]? = some (i, .ref x)) (kk : V p l e R s m args below meth c D I Q mc ms nL ws lv (pc + 2) (.ref x :: st)) : V p l e R s m args below meth c D I Q mc ms nL ws lv pc st :=
  fun H locs ls hP hI hl => lv_aload C.1 C.2.1 d (lv_at hl q h) (kk H locs ls hP hI hl)
theorem v_iload_n (C : Cx p s m meth c D cI cB cS cc nL own ret) {k : Fin 4} {x : Int32} (d : decode cc pc = .ok (.iload_n k, 1)) (q : Nat) (h : lv[q]? = some ((k : Nat), .int x)) (kk : V p l e R s m args below meth c D I Q mc ms nL ws lv (pc + 1) (.int x :: st)) : V p l e R s m args below meth c D I Q mc ms nL ws lv pc st :=
  fun H locs ls hP hI hl => lv_iload_n C.1 C.2.1 d rfl (lv_at hl q h) (kk H locs ls hP hI hl)
theorem v_iload (C : Cx p s m meth c D cI cB cS cc nL own ret) {i : Nat} {x : Int32} (d : decode cc pc = .ok (.iload i, 2)) (q : Nat) (h : lv[q]? = some (i, .int x)) (kk : V p l e R s m args below meth c D I Q mc ms nL ws lv (pc + 2) (.int x :: st)) : V p l e R s m args below meth c D I Q mc ms nL ws lv pc st :=
  fun H locs ls hP hI hl => lv_iload C.1 C.2.1 d (lv_at hl q h) (kk H locs ls hP hI hl)
theorem v_lload_n (C : Cx p s m meth c D cI cB cS cc nL own ret) {k : Fin 4} {x : Int64} (d : decode cc pc = .ok (.lload_n k, 1)) (q : Nat) (h : lv[q]? = some ((k : Nat), .long x)) (kk : V p l e R s m args below meth c D I Q mc ms nL ws lv (pc + 1) (.long x :: st)) : V p l e R s m args below meth c D I Q mc ms nL ws lv pc st :=
  fun H locs ls hP hI hl => lv_lload_n C.1 C.2.1 d rfl (lv_at hl q h) (kk H locs ls hP hI hl)
theorem v_lload (C : Cx p s m meth c D cI cB cS cc nL own ret) {i : Nat} {x : Int64} (d : decode cc pc = .ok (.lload i, 2)) (q : Nat) (h : lv[q]? = some (i, .long x)) (kk : V p l e R s m args below meth c D I Q mc ms nL ws lv (pc + 2) (.long x :: st)) : V p l e R s m args below meth c D I Q mc ms nL ws lv pc st :=
  fun H locs ls hP hI hl => lv_lload C.1 C.2.1 d (lv_at hl q h) (kk H locs ls hP hI hl)
theorem v_iconst (C : Cx p s m meth c D cI cB cS cc nL own ret) {n : Int} (v : Int32) (d : decode cc pc = .ok (.iconst n, 1)) (h : Int32.ofInt n = v) (kk : V p l e R s m args below meth c D I Q mc ms nL ws lv (pc + 1) (.int v :: st)) : V p l e R s m args below meth c D I Q mc ms nL ws lv pc st :=
  fun H locs ls hP hI hl => lv_iconst C.1 C.2.1 d h (kk H locs ls hP hI hl)
theorem v_bipush (C : Cx p s m meth c D cI cB cS cc nL own ret) {n : Int} (v : Int32) (d : decode cc pc = .ok (.bipush n, 2)) (h : (Int8.ofInt n).toInt32 = v) (kk : V p l e R s m args below meth c D I Q mc ms nL ws lv (pc + 2) (.int v :: st)) : V p l e R s m args below meth c D I Q mc ms nL ws lv pc st :=
  fun H locs ls hP hI hl => lv_bipush C.1 C.2.1 d h (kk H locs ls hP hI hl)
theorem v_sipush (C : Cx p s m meth c D cI cB cS cc nL own ret) {n : Int} (v : Int32) (d : decode cc pc = .ok (.sipush n, 3)) (h : (Int16.ofInt n).toInt32 = v) (kk : V p l e R s m args below meth c D I Q mc ms nL ws lv (pc + 3) (.int v :: st)) : V p l e R s m args below meth c D I Q mc ms nL ws lv pc st :=
  fun H locs ls hP hI hl => lv_sipush C.1 C.2.1 d h (kk H locs ls hP hI hl)
theorem v_lconst (C : Cx p s m meth c D cI cB cS cc nL own ret) {n : Fin 2} (v : Int64) (d : decode cc pc = .ok (.lconst n, 1)) (h : Int64.ofNat (n : Nat) = v) (kk : V p l e R s m args below meth c D I Q mc ms nL ws lv (pc + 1) (.long v :: st)) : V p l e R s m args below meth c D I Q mc ms nL ws lv pc st :=
  fun H locs ls hP hI hl => lv_lconst C.1 C.2.1 d h (kk H locs ls hP hI hl)
theorem v_ldc2 (C : Cx p s m meth c D cI cB cS cc nL own ret) {ix : Nat} {v : Int64} (hw : Cond.constantLong own ix v ∈ tbl) (d : decode cc pc = .ok (.ldc2_w ix, 3)) (kk : V p l e R s m args below meth c D I Q mc ms nL ws lv (pc + 3) (.long v :: st)) : V p l e R s m args below meth c D I Q mc ms nL ws lv pc st :=
  fun H locs ls hP hI hl => lv_ldc2 C.1 C.2.1 C.2.2.2.1 (C.2.2.2.2.2.2.1 _ hw _) d (kk H locs ls hP hI hl)
theorem v_ldcw (C : Cx p s m meth c D cI cB cS cc nL own ret) {ix : Nat} {v : Int32} (hw : Cond.constant own ix v ∈ tbl) (d : decode cc pc = .ok (.ldc_w ix, 3)) (kk : V p l e R s m args below meth c D I Q mc ms nL ws lv (pc + 3) (.int v :: st)) : V p l e R s m args below meth c D I Q mc ms nL ws lv pc st :=
  fun H locs ls hP hI hl => lv_ldcw C.1 C.2.1 C.2.2.2.1 (C.2.2.2.2.2.2.1 _ hw _) d (kk H locs ls hP hI hl)
theorem v_istore_n (C : Cx p s m meth c D cI cB cS cc nL own ret) {k : Fin 4} {x : Int32} (lv' : List (Nat × Value)) (d : decode cc pc = .ok (.istore_n k, 1)) (hn : (k : Nat) < nL) (hl' : ((k : Nat), Value.int x) :: lv.filter (fun q => !(q.1 == (k : Nat)) && !(q.1 + 1 == (k : Nat) && q.2.category == 2)) = lv') (kk : V p l e R s m args below meth c D I Q mc ms nL ws lv' (pc + 1) st) : V p l e R s m args below meth c D I Q mc ms nL ws lv pc (.int x :: st) :=
  fun H locs _ hP hI hl => lv_istore_n C.1 C.2.1 d rfl hl hn hl' (fun ls' h' => kk H locs ls' hP hI h')
theorem v_istore (C : Cx p s m meth c D cI cB cS cc nL own ret) {k : Nat} {x : Int32} (lv' : List (Nat × Value)) (d : decode cc pc = .ok (.istore k, 2)) (hn : k < nL) (hl' : (k, Value.int x) :: lv.filter (fun q => !(q.1 == k) && !(q.1 + 1 == k && q.2.category == 2)) = lv') (kk : V p l e R s m args below meth c D I Q mc ms nL ws lv' (pc + 2) st) : V p l e R s m args below meth c D I Q mc ms nL ws lv pc (.int x :: st) :=
  fun H locs _ hP hI hl => lv_istore C.1 C.2.1 d hl hn hl' (fun ls' h' => kk H locs ls' hP hI h')
theorem v_astore_n (C : Cx p s m meth c D cI cB cS cc nL own ret) {k : Fin 4} {x : Nat} (lv' : List (Nat × Value)) (d : decode cc pc = .ok (.astore_n k, 1)) (hn : (k : Nat) < nL) (hl' : ((k : Nat), Value.ref x) :: lv.filter (fun q => !(q.1 == (k : Nat)) && !(q.1 + 1 == (k : Nat) && q.2.category == 2)) = lv') (kk : V p l e R s m args below meth c D I Q mc ms nL ws lv' (pc + 1) st) : V p l e R s m args below meth c D I Q mc ms nL ws lv pc (.ref x :: st) :=
  fun H locs _ hP hI hl => lv_astore_n C.1 C.2.1 d rfl hl hn hl' (fun ls' h' => kk H locs ls' hP hI h')
theorem v_astore (C : Cx p s m meth c D cI cB cS cc nL own ret) {k : Nat} {x : Nat} (lv' : List (Nat × Value)) (d : decode cc pc = .ok (.astore k, 2)) (hn : k < nL) (hl' : (k, Value.ref x) :: lv.filter (fun q => !(q.1 == k) && !(q.1 + 1 == k && q.2.category == 2)) = lv') (kk : V p l e R s m args below meth c D I Q mc ms nL ws lv' (pc + 2) st) : V p l e R s m args below meth c D I Q mc ms nL ws lv pc (.ref x :: st) :=
  fun H locs _ hP hI hl => lv_astore C.1 C.2.1 d hl hn hl' (fun ls' h' => kk H locs ls' hP hI h')
theorem v_lstore (C : Cx p s m meth c D cI cB cS cc nL own ret) {k : Nat} {x : Int64} (lv' : List (Nat × Value)) (d : decode cc pc = .ok (.lstore k, 2)) (hn : k + 1 < nL) (hl' : (k, Value.long x) :: lv.filter (fun q => !(q.1 == k) && (!(q.1 == k + 1) && !(q.1 + 1 == k && q.2.category == 2))) = lv') (kk : V p l e R s m args below meth c D I Q mc ms nL ws lv' (pc + 2) st) : V p l e R s m args below meth c D I Q mc ms nL ws lv pc (.long x :: st) :=
  fun H locs _ hP hI hl => lv_lstore C.1 C.2.1 d hl hn hl' (fun ls' h' => kk H locs ls' hP hI h')
theorem v_iinc (C : Cx p s m meth c D cI cB cS cc nL own ret) {i : Nat} {n : Int} {x : Int32} (v : Int32) (lv' : List (Nat × Value)) (q : Nat) (d : decode cc pc = .ok (.iinc i n, 3)) (h : lv[q]? = some (i, .int x)) (hv : x + Int32.ofInt n = v) (hn : i < nL) (hl' : (i, Value.int v) :: lv.filter (fun q => !(q.1 == i) && !(q.1 + 1 == i && q.2.category == 2)) = lv') (kk : V p l e R s m args below meth c D I Q mc ms nL ws lv' (pc + 3) st) : V p l e R s m args below meth c D I Q mc ms nL ws lv pc st :=
  fun H locs _ hP hI hl => lv_iinc C.1 C.2.1 d hl h hv hn hl' (fun ls' h' => kk H locs ls' hP hI h')
theorem v_iadd (C : Cx p s m meth c D cI cB cS cc nL own ret) {x y : Int32} (d : decode cc pc = .ok (.iadd, 1)) (kk : V p l e R s m args below meth c D I Q mc ms nL ws lv (pc + 1) (.int (x + y) :: st)) : V p l e R s m args below meth c D I Q mc ms nL ws lv pc (.int y :: .int x :: st) :=
  fun H locs ls hP hI hl => lv_iadd C.1 C.2.1 d (kk H locs ls hP hI hl)
theorem v_isub (C : Cx p s m meth c D cI cB cS cc nL own ret) {x y : Int32} (d : decode cc pc = .ok (.isub, 1)) (kk : V p l e R s m args below meth c D I Q mc ms nL ws lv (pc + 1) (.int (x - y) :: st)) : V p l e R s m args below meth c D I Q mc ms nL ws lv pc (.int y :: .int x :: st) :=
  fun H locs ls hP hI hl => lv_isub C.1 C.2.1 d (kk H locs ls hP hI hl)
theorem v_imul (C : Cx p s m meth c D cI cB cS cc nL own ret) {x y : Int32} (d : decode cc pc = .ok (.imul, 1)) (kk : V p l e R s m args below meth c D I Q mc ms nL ws lv (pc + 1) (.int (x * y) :: st)) : V p l e R s m args below meth c D I Q mc ms nL ws lv pc (.int y :: .int x :: st) :=
  fun H locs ls hP hI hl => lv_imul C.1 C.2.1 d (kk H locs ls hP hI hl)
theorem v_iand (C : Cx p s m meth c D cI cB cS cc nL own ret) {x y : Int32} (d : decode cc pc = .ok (.iand, 1)) (kk : V p l e R s m args below meth c D I Q mc ms nL ws lv (pc + 1) (.int (x &&& y) :: st)) : V p l e R s m args below meth c D I Q mc ms nL ws lv pc (.int y :: .int x :: st) :=
  fun H locs ls hP hI hl => lv_iand C.1 C.2.1 d (kk H locs ls hP hI hl)
theorem v_ior (C : Cx p s m meth c D cI cB cS cc nL own ret) {x y : Int32} (d : decode cc pc = .ok (.ior, 1)) (kk : V p l e R s m args below meth c D I Q mc ms nL ws lv (pc + 1) (.int (x ||| y) :: st)) : V p l e R s m args below meth c D I Q mc ms nL ws lv pc (.int y :: .int x :: st) :=
  fun H locs ls hP hI hl => lv_ior C.1 C.2.1 d (kk H locs ls hP hI hl)
theorem v_ixor (C : Cx p s m meth c D cI cB cS cc nL own ret) {x y : Int32} (d : decode cc pc = .ok (.ixor, 1)) (kk : V p l e R s m args below meth c D I Q mc ms nL ws lv (pc + 1) (.int (x ^^^ y) :: st)) : V p l e R s m args below meth c D I Q mc ms nL ws lv pc (.int y :: .int x :: st) :=
  fun H locs ls hP hI hl => lv_ixor C.1 C.2.1 d (kk H locs ls hP hI hl)
theorem v_ishl (C : Cx p s m meth c D cI cB cS cc nL own ret) {x y : Int32} (d : decode cc pc = .ok (.ishl, 1)) (kk : V p l e R s m args below meth c D I Q mc ms nL ws lv (pc + 1) (.int (x <<< (y &&& 31)) :: st)) : V p l e R s m args below meth c D I Q mc ms nL ws lv pc (.int y :: .int x :: st) :=
  fun H locs ls hP hI hl => lv_ishl C.1 C.2.1 d (kk H locs ls hP hI hl)
theorem v_ishr (C : Cx p s m meth c D cI cB cS cc nL own ret) {x y : Int32} (d : decode cc pc = .ok (.ishr, 1)) (kk : V p l e R s m args below meth c D I Q mc ms nL ws lv (pc + 1) (.int (x >>> (y &&& 31)) :: st)) : V p l e R s m args below meth c D I Q mc ms nL ws lv pc (.int y :: .int x :: st) :=
  fun H locs ls hP hI hl => lv_ishr C.1 C.2.1 d (kk H locs ls hP hI hl)
theorem v_iushr (C : Cx p s m meth c D cI cB cS cc nL own ret) {x y : Int32} (d : decode cc pc = .ok (.iushr, 1)) (kk : V p l e R s m args below meth c D I Q mc ms nL ws lv (pc + 1) (.int (x.toUInt32 >>> (y.toUInt32 &&& Int32.toUInt32 31)).toInt32 :: st)) : V p l e R s m args below meth c D I Q mc ms nL ws lv pc (.int y :: .int x :: st) :=
  fun H locs ls hP hI hl => lv_iushr C.1 C.2.1 d rfl (kk H locs ls hP hI hl)
theorem v_idiv (C : Cx p s m meth c D cI cB cS cc nL own ret) {x y : Int32} (d : decode cc pc = .ok (.idiv, 1)) (hn : ¬ y = 0) (kk : V p l e R s m args below meth c D I Q mc ms nL ws lv (pc + 1) (.int (x / y) :: st)) : V p l e R s m args below meth c D I Q mc ms nL ws lv pc (.int y :: .int x :: st) :=
  fun H locs ls hP hI hl => lv_idiv C.1 C.2.1 d hn (kk H locs ls hP hI hl)
theorem v_irem (C : Cx p s m meth c D cI cB cS cc nL own ret) {x y : Int32} (d : decode cc pc = .ok (.irem, 1)) (hn : ¬ y = 0) (kk : V p l e R s m args below meth c D I Q mc ms nL ws lv (pc + 1) (.int (x - x / y * y) :: st)) : V p l e R s m args below meth c D I Q mc ms nL ws lv pc (.int y :: .int x :: st) :=
  fun H locs ls hP hI hl => lv_irem C.1 C.2.1 d hn (kk H locs ls hP hI hl)
theorem v_ldiv (C : Cx p s m meth c D cI cB cS cc nL own ret) {x y : Int64} (d : decode cc pc = .ok (.ldiv, 1)) (hn : ¬ y = 0) (kk : V p l e R s m args below meth c D I Q mc ms nL ws lv (pc + 1) (.long (x / y) :: st)) : V p l e R s m args below meth c D I Q mc ms nL ws lv pc (.long y :: .long x :: st) :=
  fun H locs ls hP hI hl => lv_ldiv C.1 C.2.1 d hn (kk H locs ls hP hI hl)
theorem v_lrem (C : Cx p s m meth c D cI cB cS cc nL own ret) {x y : Int64} (d : decode cc pc = .ok (.lrem, 1)) (hn : ¬ y = 0) (kk : V p l e R s m args below meth c D I Q mc ms nL ws lv (pc + 1) (.long (x - x / y * y) :: st)) : V p l e R s m args below meth c D I Q mc ms nL ws lv pc (.long y :: .long x :: st) :=
  fun H locs ls hP hI hl => lv_lrem C.1 C.2.1 d hn (kk H locs ls hP hI hl)
theorem v_lshl (C : Cx p s m meth c D cI cB cS cc nL own ret) {x : Int64} {y : Int32} (d : decode cc pc = .ok (.lshl, 1)) (kk : V p l e R s m args below meth c D I Q mc ms nL ws lv (pc + 1) (.long (x <<< (y.toInt64 &&& 63)) :: st)) : V p l e R s m args below meth c D I Q mc ms nL ws lv pc (.int y :: .long x :: st) :=
  fun H locs ls hP hI hl => lv_lshl C.1 C.2.1 d rfl (kk H locs ls hP hI hl)
theorem v_lcmp (C : Cx p s m meth c D cI cB cS cc nL own ret) {x y : Int64} (d : decode cc pc = .ok (.lcmp, 1)) (kk : V p l e R s m args below meth c D I Q mc ms nL ws lv (pc + 1) (.int (lg_cmp x y) :: st)) : V p l e R s m args below meth c D I Q mc ms nL ws lv pc (.long y :: .long x :: st) :=
  fun H locs ls hP hI hl => W.lcmp C.1 C.2.1 d (kk H locs ls hP hI hl)
theorem v_i2l (C : Cx p s m meth c D cI cB cS cc nL own ret) {x : Int32} (d : decode cc pc = .ok (.i2l, 1)) (kk : V p l e R s m args below meth c D I Q mc ms nL ws lv (pc + 1) (.long x.toInt64 :: st)) : V p l e R s m args below meth c D I Q mc ms nL ws lv pc (.int x :: st) :=
  fun H locs ls hP hI hl => lv_i2l C.1 C.2.1 d rfl (kk H locs ls hP hI hl)
theorem v_i2b (C : Cx p s m meth c D cI cB cS cc nL own ret) {x : Int32} (d : decode cc pc = .ok (.i2b, 1)) (kk : V p l e R s m args below meth c D I Q mc ms nL ws lv (pc + 1) (.int x.toInt8.toInt32 :: st)) : V p l e R s m args below meth c D I Q mc ms nL ws lv pc (.int x :: st) :=
  fun H locs ls hP hI hl => lv_i2b C.1 C.2.1 d rfl (kk H locs ls hP hI hl)
theorem v_i2s (C : Cx p s m meth c D cI cB cS cc nL own ret) {x : Int32} (d : decode cc pc = .ok (.i2s, 1)) (kk : V p l e R s m args below meth c D I Q mc ms nL ws lv (pc + 1) (.int x.toInt16.toInt32 :: st)) : V p l e R s m args below meth c D I Q mc ms nL ws lv pc (.int x :: st) :=
  fun H locs ls hP hI hl => lv_i2s C.1 C.2.1 d rfl (kk H locs ls hP hI hl)
theorem v_dup (C : Cx p s m meth c D cI cB cS cc nL own ret) {x : Value} (d : decode cc pc = .ok (.dup, 1)) (hc : x.category = 1) (kk : V p l e R s m args below meth c D I Q mc ms nL ws lv (pc + 1) (x :: x :: st)) : V p l e R s m args below meth c D I Q mc ms nL ws lv pc (x :: st) :=
  fun H locs ls hP hI hl => lv_dup C.1 C.2.1 d hc (kk H locs ls hP hI hl)
theorem v_pop (C : Cx p s m meth c D cI cB cS cc nL own ret) {x : Value} (d : decode cc pc = .ok (.pop, 1)) (hc : x.category = 1) (kk : V p l e R s m args below meth c D I Q mc ms nL ws lv (pc + 1) st) : V p l e R s m args below meth c D I Q mc ms nL ws lv pc (x :: st) :=
  fun H locs ls hP hI hl => lv_pop C.1 C.2.1 d hc (kk H locs ls hP hI hl)
theorem v_goto (C : Cx p s m meth c D cI cB cS cc nL own ret) {off : Int} (tgt : Nat) (d : decode cc pc = .ok (.goto off, 3)) (ht : (pc : Int) + off = (tgt : Int)) (kk : V p l e R s m args below meth c D I Q mc ms nL ws lv tgt st) : V p l e R s m args below meth c D I Q mc ms nL ws lv pc st :=
  fun H locs ls hP hI hl => lv_goto C.1 C.2.1 d ht (kk H locs ls hP hI hl)
theorem v_icmp_eq (C : Cx p s m meth c D cI cB cS cc nL own ret) {x y : Int32} {off : Int} (tgt : Nat) (d : decode cc pc = .ok (.if_icmp .eq off, 3)) (ht : (pc : Int) + off = (tgt : Int)) (kt : x = y → V p l e R s m args below meth c D I Q mc ms nL ws lv tgt st) (kf : ¬ x = y → V p l e R s m args below meth c D I Q mc ms nL ws lv (pc + 3) st) : V p l e R s m args below meth c D I Q mc ms nL ws lv pc (.int y :: .int x :: st) :=
  fun H locs ls hP hI hl => lv_icmp_eq C.1 C.2.1 d ht (fun h => kt h H locs ls hP hI hl) (fun h => kf h H locs ls hP hI hl)
theorem v_icmp_ne (C : Cx p s m meth c D cI cB cS cc nL own ret) {x y : Int32} {off : Int} (tgt : Nat) (d : decode cc pc = .ok (.if_icmp .ne off, 3)) (ht : (pc : Int) + off = (tgt : Int)) (kt : ¬ x = y → V p l e R s m args below meth c D I Q mc ms nL ws lv tgt st) (kf : x = y → V p l e R s m args below meth c D I Q mc ms nL ws lv (pc + 3) st) : V p l e R s m args below meth c D I Q mc ms nL ws lv pc (.int y :: .int x :: st) :=
  fun H locs ls hP hI hl => lv_icmp_ne C.1 C.2.1 d ht (fun h => kt h H locs ls hP hI hl) (fun h => kf h H locs ls hP hI hl)
theorem v_icmp_lt (C : Cx p s m meth c D cI cB cS cc nL own ret) {x y : Int32} {off : Int} (tgt : Nat) (d : decode cc pc = .ok (.if_icmp .lt off, 3)) (ht : (pc : Int) + off = (tgt : Int)) (kt : x < y → V p l e R s m args below meth c D I Q mc ms nL ws lv tgt st) (kf : ¬ x < y → V p l e R s m args below meth c D I Q mc ms nL ws lv (pc + 3) st) : V p l e R s m args below meth c D I Q mc ms nL ws lv pc (.int y :: .int x :: st) :=
  fun H locs ls hP hI hl => lv_icmp_lt C.1 C.2.1 d ht (fun h => kt h H locs ls hP hI hl) (fun h => kf h H locs ls hP hI hl)
theorem v_icmp_ge (C : Cx p s m meth c D cI cB cS cc nL own ret) {x y : Int32} {off : Int} (tgt : Nat) (d : decode cc pc = .ok (.if_icmp .ge off, 3)) (ht : (pc : Int) + off = (tgt : Int)) (kt : y ≤ x → V p l e R s m args below meth c D I Q mc ms nL ws lv tgt st) (kf : ¬ y ≤ x → V p l e R s m args below meth c D I Q mc ms nL ws lv (pc + 3) st) : V p l e R s m args below meth c D I Q mc ms nL ws lv pc (.int y :: .int x :: st) :=
  fun H locs ls hP hI hl => lv_icmp_ge C.1 C.2.1 d ht (fun h => kt h H locs ls hP hI hl) (fun h => kf h H locs ls hP hI hl)
theorem v_icmp_gt (C : Cx p s m meth c D cI cB cS cc nL own ret) {x y : Int32} {off : Int} (tgt : Nat) (d : decode cc pc = .ok (.if_icmp .gt off, 3)) (ht : (pc : Int) + off = (tgt : Int)) (kt : y < x → V p l e R s m args below meth c D I Q mc ms nL ws lv tgt st) (kf : ¬ y < x → V p l e R s m args below meth c D I Q mc ms nL ws lv (pc + 3) st) : V p l e R s m args below meth c D I Q mc ms nL ws lv pc (.int y :: .int x :: st) :=
  fun H locs ls hP hI hl => lv_icmp_gt C.1 C.2.1 d ht (fun h => kt h H locs ls hP hI hl) (fun h => kf h H locs ls hP hI hl)
theorem v_icmp_le (C : Cx p s m meth c D cI cB cS cc nL own ret) {x y : Int32} {off : Int} (tgt : Nat) (d : decode cc pc = .ok (.if_icmp .le off, 3)) (ht : (pc : Int) + off = (tgt : Int)) (kt : x ≤ y → V p l e R s m args below meth c D I Q mc ms nL ws lv tgt st) (kf : ¬ x ≤ y → V p l e R s m args below meth c D I Q mc ms nL ws lv (pc + 3) st) : V p l e R s m args below meth c D I Q mc ms nL ws lv pc (.int y :: .int x :: st) :=
  fun H locs ls hP hI hl => lv_icmp_le C.1 C.2.1 d ht (fun h => kt h H locs ls hP hI hl) (fun h => kf h H locs ls hP hI hl)
theorem v_if_eq (C : Cx p s m meth c D cI cB cS cc nL own ret) {x : Int32} {off : Int} (tgt : Nat) (d : decode cc pc = .ok (.ifCond .eq off, 3)) (ht : (pc : Int) + off = (tgt : Int)) (kt : x = 0 → V p l e R s m args below meth c D I Q mc ms nL ws lv tgt st) (kf : ¬ x = 0 → V p l e R s m args below meth c D I Q mc ms nL ws lv (pc + 3) st) : V p l e R s m args below meth c D I Q mc ms nL ws lv pc (.int x :: st) :=
  fun H locs ls hP hI hl => lv_if_eq C.1 C.2.1 d ht (fun h => kt h H locs ls hP hI hl) (fun h => kf h H locs ls hP hI hl)
theorem v_if_ne (C : Cx p s m meth c D cI cB cS cc nL own ret) {x : Int32} {off : Int} (tgt : Nat) (d : decode cc pc = .ok (.ifCond .ne off, 3)) (ht : (pc : Int) + off = (tgt : Int)) (kt : ¬ x = 0 → V p l e R s m args below meth c D I Q mc ms nL ws lv tgt st) (kf : x = 0 → V p l e R s m args below meth c D I Q mc ms nL ws lv (pc + 3) st) : V p l e R s m args below meth c D I Q mc ms nL ws lv pc (.int x :: st) :=
  fun H locs ls hP hI hl => lv_if_ne C.1 C.2.1 d ht (fun h => kt h H locs ls hP hI hl) (fun h => kf h H locs ls hP hI hl)
theorem v_if_lt (C : Cx p s m meth c D cI cB cS cc nL own ret) {x : Int32} {off : Int} (tgt : Nat) (d : decode cc pc = .ok (.ifCond .lt off, 3)) (ht : (pc : Int) + off = (tgt : Int)) (kt : x < 0 → V p l e R s m args below meth c D I Q mc ms nL ws lv tgt st) (kf : ¬ x < 0 → V p l e R s m args below meth c D I Q mc ms nL ws lv (pc + 3) st) : V p l e R s m args below meth c D I Q mc ms nL ws lv pc (.int x :: st) :=
  fun H locs ls hP hI hl => lv_if_lt C.1 C.2.1 d ht (fun h => kt h H locs ls hP hI hl) (fun h => kf h H locs ls hP hI hl)
theorem v_if_ge (C : Cx p s m meth c D cI cB cS cc nL own ret) {x : Int32} {off : Int} (tgt : Nat) (d : decode cc pc = .ok (.ifCond .ge off, 3)) (ht : (pc : Int) + off = (tgt : Int)) (kt : 0 ≤ x → V p l e R s m args below meth c D I Q mc ms nL ws lv tgt st) (kf : ¬ 0 ≤ x → V p l e R s m args below meth c D I Q mc ms nL ws lv (pc + 3) st) : V p l e R s m args below meth c D I Q mc ms nL ws lv pc (.int x :: st) :=
  fun H locs ls hP hI hl => lv_if_ge C.1 C.2.1 d ht (fun h => kt h H locs ls hP hI hl) (fun h => kf h H locs ls hP hI hl)
theorem v_if_gt (C : Cx p s m meth c D cI cB cS cc nL own ret) {x : Int32} {off : Int} (tgt : Nat) (d : decode cc pc = .ok (.ifCond .gt off, 3)) (ht : (pc : Int) + off = (tgt : Int)) (kt : 0 < x → V p l e R s m args below meth c D I Q mc ms nL ws lv tgt st) (kf : ¬ 0 < x → V p l e R s m args below meth c D I Q mc ms nL ws lv (pc + 3) st) : V p l e R s m args below meth c D I Q mc ms nL ws lv pc (.int x :: st) :=
  fun H locs ls hP hI hl => lv_if_gt C.1 C.2.1 d ht (fun h => kt h H locs ls hP hI hl) (fun h => kf h H locs ls hP hI hl)
theorem v_if_le (C : Cx p s m meth c D cI cB cS cc nL own ret) {x : Int32} {off : Int} (tgt : Nat) (d : decode cc pc = .ok (.ifCond .le off, 3)) (ht : (pc : Int) + off = (tgt : Int)) (kt : x ≤ 0 → V p l e R s m args below meth c D I Q mc ms nL ws lv tgt st) (kf : ¬ x ≤ 0 → V p l e R s m args below meth c D I Q mc ms nL ws lv (pc + 3) st) : V p l e R s m args below meth c D I Q mc ms nL ws lv pc (.int x :: st) :=
  fun H locs ls hP hI hl => lv_if_le C.1 C.2.1 d ht (fun h => kt h H locs ls hP hI hl) (fun h => kf h H locs ls hP hI hl)
theorem v_lookup (C : Cx p s m meth c D cI cB cS cc nL own ret) {dflt : Int} {ps : Array (Int × Int)} {len : Nat} {x : Int32} {off : Int} (tgt : Nat) (d : decode cc pc = .ok (.lookupswitch dflt ps, len)) (hp : (ps.toList.zip (ps.toList.drop 1)).all (fun (a, next) => a.1 < next.1) = true) (ho : Op.lookupswitch.offset ps.toList dflt x.toInt = off) (ht : (pc : Int) + off = (tgt : Int)) (kk : V p l e R s m args below meth c D I Q mc ms nL ws lv tgt st) : V p l e R s m args below meth c D I Q mc ms nL ws lv pc (.int x :: st) :=
  fun H locs ls hP hI hl => lv_lookup C.1 C.2.1 d hp ho ht (kk H locs ls hP hI hl)
theorem v_tableOut (C : Cx p s m meth c D cI cB cS cc nL own ret) {dflt lo hi : Int} {offs : Array Int} {len : Nat} {x : Int32} (tgt : Nat) (d : decode cc pc = .ok (.tableswitch dflt lo hi offs, len)) (h : x.toInt < lo ∨ hi < x.toInt) (ht : (pc : Int) + dflt = (tgt : Int)) (kk : V p l e R s m args below meth c D I Q mc ms nL ws lv tgt st) : V p l e R s m args below meth c D I Q mc ms nL ws lv pc (.int x :: st) :=
  fun H locs ls hP hI hl => lv_tableOut C.1 C.2.1 d h ht (kk H locs ls hP hI hl)
theorem v_tableIn (C : Cx p s m meth c D cI cB cS cc nL own ret) {dflt lo hi : Int} {offs : Array Int} {len : Nat} {x : Int32} {off : Int} (tgt : Nat) (d : decode cc pc = .ok (.tableswitch dflt lo hi offs, len)) (h1 : ¬ x.toInt < lo) (h2 : ¬ hi < x.toInt) (ho : offs[(x.toInt - lo).toNat]? = some off) (ht : (pc : Int) + off = (tgt : Int)) (kk : V p l e R s m args below meth c D I Q mc ms nL ws lv tgt st) : V p l e R s m args below meth c D I Q mc ms nL ws lv pc (.int x :: st) :=
  fun H locs ls hP hI hl => lv_tableIn C.1 C.2.1 d h1 h2 ho ht (kk H locs ls hP hI hl)
/-- a value on the stack gets another name -/
theorem v_eqi {x : Int32} (y : Int32) (h : x = y) (kk : V p l e R s m args below meth c D I Q mc ms nL ws lv pc (.int y :: st)) : V p l e R s m args below meth c D I Q mc ms nL ws lv pc (.int x :: st) := h ▸ kk
/-- fewer locals, in any order -/
theorem v_loc {lv' : List (Nat × Value)} (is : List Nat) (h : lv_pick lv is = lv') (kk : V p l e R s m args below meth c D I Q mc ms nL ws lv' pc st) : V p l e R s m args below meth c D I Q mc ms nL ws lv pc st :=
  fun H locs ls hP hI hl => kk H locs ls hP hI (lv_sub hl is h)
/-- the world's cells in another order -/
theorem v_perm {A : Nat → Prop} {ws' : va_W} (is : List Nat) (hn : va_nd is = true) (h : is.map (fun i => ws[i]?) = ws'.map some) (kk : V p l e R s m args below meth c D (IM A s) Q mc ms nL ws' lv pc st) : V p l e R s m args below meth c D (IM A s) Q mc ms nL ws lv pc st :=
  fun H locs ls hP hI hl => kk H locs ls (hP.sub is (by
    have e : is.filterMap (fun i => ws[i]?) = (is.map (fun i => ws[i]?)).filterMap id := by rw [List.filterMap_map]; rfl
    rw [e, h, List.filterMap_map]
    simp)) ⟨hI.1.sub is hn h, hI.2⟩ hl
/-! fields -/
/-- pool entry ix of class own names field k of the class ci of vwCl -/
def FL (own : String) (ix ci k : Nat) : Prop := ∃ (C : String) (T : u_T) (N : Nat), vwCl[ci]? = some (C, T, N) ∧ k < N ∧ (∀ w ∈ u_ws C T N, w ∈ tbl) ∧ ((Cond.fieldLink own ix (T k).1 (T k).2.1 (T k).2.2.1 ∈ tbl) ∨ ∃ host, Cond.fieldLinkNest own ix (T k).1 (T k).2.1 (T k).2.2.1 host ∈ tbl)
theorem v_get (C : Cx p s m meth c D cI cB cS cc nL own ret) {ix ci k a : Nat} (L : FL own ix ci k) (d : decode cc pc = .ok (.getfield ix, 3)) (q0 : Nat) {fs : List Value} (he : ws[q0]? = some (a, .inr (ci, fs))) {v : Value} (hv : fs[k]? = some v) (kk : V p l e R s m args below meth c D I Q mc ms nL ws lv (pc + 3) (v :: st)) : V p l e R s m args below meth c D I Q mc ms nL ws lv pc (.ref a :: st) := by
  intro H locs ls hP hI hl
  obtain ⟨Cn, T, N, h1, h2, h3, h4⟩ := L
  obtain ⟨hx, hb, -, hown, -, -, hts, hK⟩ := C
  have hts' : ∀ w ∈ tbl, w.before args s = true := fun w h => hts w h args
  rcases h4 with h4 | ⟨host, h4⟩
  · exact va_get hx hb hts' h3 hown hK hP q0 he h1 k h2 (hts' _ h4) (fun _ h => h) hv d (kk H locs ls hP hI hl)
  · exact va_getN hx hb hts' h3 hown hK hP q0 he h1 k h2 (hts' _ h4) (fun _ h => h) hv d (kk H locs ls hP hI hl)
/-- .. and it isn't final, and of type ty -/
def FP (own : String) (ix ci k : Nat) (ty : FieldType) : Prop := ∃ (C : String) (T : u_T) (N : Nat) (ty0 : Nat → FieldType), vwCl[ci]? = some (C, T, N) ∧ k < N ∧ (∀ w ∈ u_ws C T N, w ∈ tbl) ∧ ((Cond.fieldLink own ix (T k).1 (T k).2.1 (T k).2.2.1 ∈ tbl) ∨ ∃ host, Cond.fieldLinkNest own ix (T k).1 (T k).2.1 (T k).2.2.1 host ∈ tbl) ∧
  (∀ k, k < N → parseFieldDescriptor (T k).2.2.1 = some (ty0 k)) ∧ (∀ a, a < N → ∀ b, b < N → a ≠ b → (T a).2.1 ≠ (T b).2.1) ∧ (T k).2.2.2 = false ∧ parseFieldDescriptor (T k).2.2.1 = some ty
theorem v_put (C : Cx p s m meth c D cI cB cS cc nL own ret) {A : Nat → Prop} {ix ci k a : Nat} {ty : FieldType} (L : FP own ix ci k ty) (ws' : va_W) (d : decode cc pc = .ok (.putfield ix, 3)) (q0 : Nat) {fs : List Value} (he : ws[q0]? = some (a, .inr (ci, fs))) {v : Value} (hn : narrow ty v = v) (hf : fits ty v = true) (hk : k < fs.length) (hw : ws.set q0 (a, .inr (ci, fs.set k v)) = ws') (kk : V p l e R s m args below meth c D (IM A s) Q mc ms nL ws' lv (pc + 3) st) : V p l e R s m args below meth c D (IM A s) Q mc ms nL ws lv pc (v :: .ref a :: st) := by
  intro H locs ls hP hI hl
  subst hw
  obtain ⟨Cn, T, N, ty0, h1, h2, h3, h4, h5, h6, h7, h8⟩ := L
  obtain ⟨hx, hb, -, hown, -, -, hts, hK⟩ := C
  have hts' : ∀ w ∈ tbl, w.before args s = true := fun w h => hts w h args
  obtain ⟨hD, hS, hA⟩ := hI
  rcases h4 with h4 | ⟨host, h4⟩
  · exact va_put hx hb hts' h3 ty0 h5 h6 hown hK hP hD hS q0 he h1 k h2 (hts' _ h4) (fun _ h => h) h7 h8 hn hf hk d (fun H1 locs1 hP hD hS => kk H1 locs1 ls hP ⟨hD, hS, hA⟩ hl)
  · exact va_putN hx hb hts' h3 ty0 h5 h6 hown hK hP hD hS q0 he h1 k h2 (hts' _ h4) (fun _ h => h) h7 h8 hn hf hk d (fun H1 locs1 hP hD hS => kk H1 locs1 ls hP ⟨hD, hS, hA⟩ hl)
/-! arrays -/
theorem v_iald (C : Cx p s m meth c D cI cB cS cc nL own ret) {a n : Nat} {f : Nat → Int32} {i : Int32} (d : decode cc pc = .ok (.iaload, 1)) (q0 : Nat) (ha : ws[q0]? = some (a, .inl (cI, n, .inl f))) (hin : vp_in i n) (kk : V p l e R s m args below meth c D I Q mc ms nL ws lv (pc + 1) (.int (f i.toNatClampNeg) :: st)) : V p l e R s m args below meth c D I Q mc ms nL ws lv pc (.int i :: .ref a :: st) :=
  fun H locs ls hP hI hl => va_iald C.1 C.2.1 C.2.2.2.2.2.2.2 hP q0 0 ha rfl hin d (kk H locs ls hP hI hl)
theorem v_ialdN (C : Cx p s m meth c D cI cB cS cc nL own ret) {a n : Nat} {f : Nat → Int32} {i : Int32} (d : decode cc pc = .ok (.iaload, 1)) (q0 : Nat) (ha : ws[q0]? = some (a, .inl (cI, n, .inl f))) (j : Nat) (hi : i = nI j) (hj : j < n) (hn : n < 2 ^ 31) (kk : V p l e R s m args below meth c D I Q mc ms nL ws lv (pc + 1) (.int (f j) :: st)) : V p l e R s m args below meth c D I Q mc ms nL ws lv pc (.int i :: .ref a :: st) :=
  fun H locs ls hP hI hl => va_iald C.1 C.2.1 C.2.2.2.2.2.2.2 hP q0 0 ha rfl (by rw [hi]; exact vp_in_nI hj hn) d (by rw [hi, nI_clamp (Nat.lt_trans hj hn)]; exact kk H locs ls hP hI hl)
theorem v_zaldN (C : Cx p s m meth c D cI cB cS cc nL own ret) {a n : Nat} {f : Nat → Int32} {i : Int32} (d : decode cc pc = .ok (.baload, 1)) (q0 : Nat) (ha : ws[q0]? = some (a, .inl (cB, n, .inl f))) (j : Nat) (hi : i = nI j) (hj : j < n) (hn : n < 2 ^ 31) (kk : V p l e R s m args below meth c D I Q mc ms nL ws lv (pc + 1) (.int (f j) :: st)) : V p l e R s m args below meth c D I Q mc ms nL ws lv pc (.int i :: .ref a :: st) :=
  fun H locs ls hP hI hl => va_zald C.1 C.2.1 C.2.2.2.2.2.2.2 hP q0 1 ha rfl (by rw [hi]; exact vp_in_nI hj hn) d (by rw [hi, nI_clamp (Nat.lt_trans hj hn)]; exact kk H locs ls hP hI hl)
theorem v_aaldN (C : Cx p s m meth c D cI cB cS cc nL own ret) {a n : Nat} {f : Nat → Option Nat} {i : Int32} (d : decode cc pc = .ok (.aaload, 1)) (q0 : Nat) (ha : ws[q0]? = some (a, .inl (cS, n, .inr (.inr (.inr (.inr f)))))) (j : Nat) (hi : i = nI j) (hj : j < n) (hn : n < 2 ^ 31) (x : Nat) (hx : f j = some x) (kk : V p l e R s m args below meth c D I Q mc ms nL ws lv (pc + 1) (.ref x :: st)) : V p l e R s m args below meth c D I Q mc ms nL ws lv pc (.int i :: .ref a :: st) :=
  fun H locs ls hP hI hl => va_aldq C.1 C.2.1 C.2.2.2.2.2.2.2 hP q0 2 ha rfl (by rw [hi]; exact vp_in_nI hj hn) d (by rw [hi, nI_clamp (Nat.lt_trans hj hn), hx]; exact kk H locs ls hP hI hl)
theorem v_iastN (C : Cx p s m meth c D cI cB cS cc nL own ret) {A : Nat → Prop} {a n : Nat} {f : Nat → Int32} {i x : Int32} (ws' : va_W) (d : decode cc pc = .ok (.iastore, 1)) (q0 : Nat) (ha : ws[q0]? = some (a, .inl (cI, n, .inl f))) (j : Nat) (hi : i = nI j) (hj : j < n) (hn : n < 2 ^ 31) (hw : ws.set q0 (a, .inl (cI, n, .inl (upd f j x))) = ws') (kk : V p l e R s m args below meth c D (IM A s) Q mc ms nL ws' lv (pc + 1) st) : V p l e R s m args below meth c D (IM A s) Q mc ms nL ws lv pc (.int x :: .int i :: .ref a :: st) := by
  intro H locs ls hP hI hl
  subst hw
  have e : i.toNatClampNeg = j := by rw [hi, nI_clamp (Nat.lt_trans hj hn)]
  refine va_iast C.1 C.2.1 C.2.2.2.2.2.2.2 hP hI.1 hI.2.1 q0 0 ha rfl (by rw [hi]; exact vp_in_nI hj hn) d (fun H1 locs1 hP1 hD1 hS1 => ?_)
  rw [e] at hP1 hD1
  exact kk H1 locs1 ls hP1 ⟨hD1, hS1, hI.2.2⟩ hl
theorem v_zastN (C : Cx p s m meth c D cI cB cS cc nL own ret) {A : Nat → Prop} {a n : Nat} {f : Nat → Int32} {i x : Int32} (ws' : va_W) (d : decode cc pc = .ok (.bastore, 1)) (q0 : Nat) (ha : ws[q0]? = some (a, .inl (cB, n, .inl f))) (j : Nat) (hi : i = nI j) (hj : j < n) (hn : n < 2 ^ 31) (hx : vp_nar .boolean x = x) (hw : ws.set q0 (a, .inl (cB, n, .inl (upd f j x))) = ws') (kk : V p l e R s m args below meth c D (IM A s) Q mc ms nL ws' lv (pc + 1) st) : V p l e R s m args below meth c D (IM A s) Q mc ms nL ws lv pc (.int x :: .int i :: .ref a :: st) := by
  intro H locs ls hP hI hl
  subst hw
  have e : i.toNatClampNeg = j := by rw [hi, nI_clamp (Nat.lt_trans hj hn)]
  refine va_zast C.1 C.2.1 C.2.2.2.2.2.2.2 hP hI.1 hI.2.1 q0 1 ha rfl (by rw [hi]; exact vp_in_nI hj hn) d (fun H1 locs1 hP1 hD1 hS1 => ?_)
  rw [e, hx] at hP1 hD1
  exact kk H1 locs1 ls hP1 ⟨hD1, hS1, hI.2.2⟩ hl
theorem v_alen (C : Cx p s m meth c D cI cB cS cc nL own ret) {a n : Nat} {x : (Nat → Int32) ⊕ (Nat → Int64) ⊕ (Nat → UInt32) ⊕ (Nat → UInt64) ⊕ (Nat → Option Nat)} (d : decode cc pc = .ok (.arraylength, 1)) (q0 : Nat) (ha : ws[q0]? = some (a, .inl (cI, n, x))) (kk : V p l e R s m args below meth c D I Q mc ms nL ws lv (pc + 1) (.int (nI n) :: st)) : V p l e R s m args below meth c D I Q mc ms nL ws lv pc (.ref a :: st) :=
  fun H locs ls hP hI hl => va_alen C.1 C.2.1 C.2.2.2.2.2.2.2 hP q0 0 ha rfl rfl d (kk H locs ls hP hI hl)
end CoreRows
