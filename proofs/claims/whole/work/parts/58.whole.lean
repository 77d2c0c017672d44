/-! THE CLAIM OUT OF ONE WALK OF THE LAW'S BODY. Your part is whole_start (and what it stands on); all else here is the same for every law, but numbers. -/
def R_law : String := "ChildCourtLaw"
def lw_P (b : Addr) (xs : List Int32) (args : Array Value) (s : State) : Prop := args = #[.ref b] ∧ s.IntsAt b xs ∧ xs.length ≤ 384 ∧ (Jvm.Cond.and given_1 narrow_1).before args s = true
def lw_Q (_ : Array Value) (s : State) (o : Outcome) (t : State) : Prop := o = .returned (some (.int 1)) ∧ Framed s o t [] 600000 7302250
def lw_Z (below : List Frame) (a : Array Value) (s : State) : State → Prop := fun t => ∃ o, t.status = .running ∧ Ended t below o ∧ lw_Q a s o t
/-- the law's own end, with 1 on the stack, nothing written that was there before, its room as the claim has it -/
theorem lw_ret {p : Program} {l : Launch} {e : Env} {s : State} {m : MethodId} {below : List Frame} {meth : Method} {c : Code} {b : Nat} (hx : p.tables.exec = Jvm.exec) (hb : c.code = code) (hr : meth.sig.returnType = ret) (hlocks : meth.locks = false) {pc : Nat} {H : Heap} {ls : Array Slot} (hdg : decode code pc = .ok (.ireturn, 1)) : W p l e room_1 s m #[Value.ref b] below meth c H [] 600000 7302250 (lw_Z below #[Value.ref b] s) (F0 m pc ls [.int 1]) := by
  intro T hT X
  obtain ⟨fs, hret, hrun, hended, hW, hframe⟩ := X.leave (v := some (.int 1)) (hlocks := hlocks) (fun h => by rw [hr] at h; cases h)
  have hmeth' : T.vm.method? m = some meth := X.method'
  refine ⟨T.setFrames fs, ?_, .returned (some (.int 1)), hrun, hended, rfl, ⟨_, rfl⟩, hW, hframe⟩
  jvm_step X.here [X.here.top, hx, hb, hdg, hmeth', hr, ret, narrow_b1]
  (try refine ⟨rfl, ?_⟩); (try refine ⟨rfl, ?_⟩)
  first | (intro acts; rw [hret _ acts rfl rfl rfl]) | rw [hret _ _ rfl rfl rfl]
  exact Steps.refl _
/-- what holds at the law's entry: the machine, the code, the tables' words (any of lw_tbl by 'hts w (by decide +kernel)'), the script of L ints xs at the cell b, what the Statement gives of the start (any of its parts by flat_of_before) -/
def lw_At (p : Program) (s : State) (m : MethodId) (meth : Method) (c : Code) (b L : Nat) (xs : Nat → Int32) : Prop :=
  p.tables.exec = Jvm.exec ∧ c.code = code ∧ meth.sig.returnType = ret ∧ c.maxLocals = 4 ∧ s.vm.findClass R_law = some m.cls ∧ (∀ w ∈ lw_tbl, w.before #[Value.ref b] s = true) ∧ va_X b L xs s s.heap ∧ b < s.heap.size ∧ meth.locks = false ∧ (Jvm.Cond.and given_1 narrow_1).before #[Value.ref b] s = true
theorem law_end {p : Program} {l : Launch} {e : Env} {s : State} {m : MethodId} {below : List Frame} {meth : Method} {c : Code} {D : va_G} {cI cB cS : ClassId} {b : Nat} {ws : va_W} {lv : List (Nat × Value)} (C : Cx p s m meth c D cI cB cS cL_law 4 RL (some .boolean)) : V p l e room_1 s m #[Value.ref b] below meth c D (IM (fun q => s.heap.size ≤ q) s) (lw_Z below #[Value.ref b] s) 46 806 4 ws lv 1185 [] := by
  refine v_iconst C 1 dL_law_1185 (by decide) ?_
  intro H locs ls hP hI hl
  exact va_forget hI.2.1.2.2 (W.widen (by decide) (by decide) (lw_ret C.1 C.2.1 C.2.2.2.2.1 C.2.2.2.2.2.1 dL_law_1186))
theorem whole_start {p : Program} {e : Env} {s : State} {m : MethodId} {below : List Frame} {meth : Method} {c : Code} (l : Launch) {b L : Nat} {xs : Nat → Int32} (hL : L ≤ 384) (C0 : lw_At p s m meth c b L xs) : W p l e room_1 s m #[Value.ref b] below meth c s.heap [] 0 0 (lw_Z below #[Value.ref b] s) (entryFrame m ([Value.ref b] : List Value).toArray 4) := by
  obtain ⟨hx, hb, hr, hml, hown, hts, hX, hbl, hlk, hgv⟩ := C0
  have hTB : TB s := TB.of hts
  obtain ⟨D, cI, cB, cS, hWd⟩ := wd_start hTB
  have C : Cx p s m meth c D cI cB cS cL_law 4 RL (some .boolean) := ⟨hx, hb, hml, hown, hr, hlk, hWd.1, hWd.2⟩
  have hl := lv_entry [Value.ref b] (n := 4) (Nat.le_of_ble_eq_true rfl)
  rw [lg_entry_eq]
  have K : V p l e room_1 s m #[Value.ref b] below meth c D (IM (fun q => s.heap.size ≤ q) s) (lw_Z below #[Value.ref b] s) 0 0 4 [] [(0, .ref b)] 0 [] := by
    refine law_x C (fun a wc hC => ?_)
    refine law_m C (fun b' wm hM => ?_)
    refine v_iconst C 0 dL_law_16 (by decide) ?_
    refine v_istore_n C [(3, .int (nI 0)), (2, .ref (b' 0)), (1, .ref (a 0)), (0, .ref b)] dL_law_17 (by decide) rfl ?_
    exact law_loop C hX hbl (Nat.not_le.mpr hbl) hL (fun i wc wm => law_end C) (L + 7) 0 wc wm (by omega) (by omega) (inv_0 hC hM)
  exact K s.heap [] _ (fun k q h => absurd h (by simp)) ⟨⟨fun i j p q h => absurd h (by simp), fun k q h => absurd h (by simp)⟩, va_S.rf, fun q h => h⟩ hl
