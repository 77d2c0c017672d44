/-! sets as numbers -/
def mk (p : Nat → Bool) : Nat → Nat
  | 0 => 0
  | n + 1 => mk p n + (if p n then 2 ^ n else 0)
def ct (p : Nat → Bool) : Nat → Nat
  | 0 => 0
  | n + 1 => ct p n + (if p n then 1 else 0)
theorem mk_lt (p : Nat → Bool) : ∀ n, mk p n < 2 ^ n
  | 0 => by simp [mk]
  | n + 1 => by
    have h := mk_lt p n
    rw [mk, Nat.pow_succ]
    split <;> omega
theorem mk_cong {p q : Nat → Bool} : ∀ {n : Nat}, (∀ j, j < n → p j = q j) → mk p n = mk q n
  | 0, _ => rfl
  | n + 1, h => by rw [mk, mk, mk_cong (fun j hj => h j (by omega)), h n (by omega)]
theorem ct_cong {p q : Nat → Bool} : ∀ {n : Nat}, (∀ j, j < n → p j = q j) → ct p n = ct q n
  | 0, _ => rfl
  | n + 1, h => by rw [ct, ct, ct_cong (fun j hj => h j (by omega)), h n (by omega)]
theorem ct_le (p : Nat → Bool) : ∀ n, ct p n ≤ n
  | 0 => Nat.le_refl _
  | n + 1 => by
    have h := ct_le p n
    rw [ct]
    split <;> omega
theorem mk_bit (p : Nat → Bool) : ∀ n j, (mk p n).testBit j = (decide (j < n) && p j)
  | 0, j => by simp [mk]
  | n + 1, j => by
    have ih := mk_bit p n j
    have hl := mk_lt p n
    rw [mk]
    by_cases hp : p n = true
    · rw [if_pos hp, Nat.add_comm]
      rcases Nat.lt_trichotomy j n with h | h | h
      · rw [Nat.testBit_two_pow_add_gt h, ih]
        simp [h, Nat.lt_succ_of_lt h]
      · subst h
        rw [Nat.testBit_two_pow_add_eq, Nat.testBit_lt_two_pow hl]
        simp [hp]
      · have e : 2 ^ n + mk p n < 2 ^ j := Nat.lt_of_lt_of_le (by rw [Nat.pow_succ]; omega : 2 ^ n + mk p n < 2 ^ (n + 1)) (Nat.pow_le_pow_right (by omega) h)
        rw [Nat.testBit_lt_two_pow e]
        have : ¬ j < n + 1 := by omega
        simp [this]
    · rw [if_neg hp, Nat.add_zero, ih]
      rcases Nat.lt_trichotomy j n with h | h | h
      · simp [h, Nat.lt_succ_of_lt h]
      · subst h
        simp at hp
        simp [hp]
      · have h1 : ¬ j < n := by omega
        have h2 : ¬ j < n + 1 := by omega
        simp [h1, h2]
theorem mk_self {m n : Nat} (h : m < 2 ^ n) : mk m.testBit n = m := by
  apply Nat.eq_of_testBit_eq
  intro j
  rw [mk_bit]
  by_cases hj : j < n
  · simp [hj]
  · have : m < 2 ^ j := Nat.lt_of_lt_of_le h (Nat.pow_le_pow_right (by omega) (by omega))
    simp [hj, Nat.testBit_lt_two_pow this]
theorem mk_of {m n : Nat} {p : Nat → Bool} (h : m < 2 ^ n) (hp : ∀ j, j < n → m.testBit j = p j) : m = mk p n := by
  rw [← mk_self h]
  exact mk_cong hp
def clr (m j : Nat) : Nat := if m.testBit j then m - 2 ^ j else m
def set1 (m j : Nat) : Nat := if m.testBit j then m else m + 2 ^ j
theorem raw_bit : ∀ m, m < 64 → ∀ j, j < 6 → (nI m >>> (nI j &&& 31)) &&& 1 = if m.testBit j then 1 else 0 := by decide +kernel
theorem raw_and : ∀ m, m < 64 → ∀ j, j < 6 → (nI m &&& ((1 : Int32) <<< (nI j &&& 31)) = 0 ↔ m.testBit j = false) := by decide +kernel
theorem raw_clr : ∀ m, m < 64 → ∀ j, j < 6 → nI m &&& (((1 : Int32) <<< (nI j &&& 31)) ^^^ (-1)) = nI (clr m j) := by decide +kernel
theorem raw_set : ∀ m, m < 64 → ∀ j, j < 6 → nI m ||| ((1 : Int32) <<< (nI j &&& 31)) = nI (set1 m j) := by decide +kernel
theorem clr_bit : ∀ m, m < 64 → ∀ j, j < 6 → ∀ i, i < 6 → (clr m j).testBit i = (m.testBit i && !decide (i = j)) := by decide +kernel
theorem set1_bit : ∀ m, m < 64 → ∀ j, j < 6 → ∀ i, i < 6 → (set1 m j).testBit i = (m.testBit i || decide (i = j)) := by decide +kernel
theorem clr_lt {m n : Nat} (j : Nat) (h : m < n) : clr m j < n := by
  unfold clr
  split
  · exact Nat.lt_of_le_of_lt (Nat.sub_le _ _) h
  · exact h
theorem set1_lt : ∀ n, n < 7 → ∀ m, m < 2 ^ n → ∀ j, j < n → set1 m j < 2 ^ n := by decide +kernel
theorem pow5 {n : Nat} (h : n ≤ 5) : 2 ^ n ≤ 32 := by
  have : 2 ^ n ≤ 2 ^ 5 := Nat.pow_le_pow_right (by omega) h
  omega
def voB (st : Nat) (j : Nat) : Bool := !st.testBit j
theorem raw_vo : ∀ nj, nj < 6 → ∀ st, st < 32 → (((1 : Int32) <<< (nI nj &&& 31)) - 1) &&& (nI st ^^^ (-1)) = nI (mk (voB st) nj) := by decide +kernel
/-- Integer.bitCount -/
def bcF (x : Int32) : Int32 :=
  let x1 := x - ((x.toUInt32 >>> ((1 : Int32).toUInt32 &&& Int32.toUInt32 31)).toInt32 &&& 1431655765)
  let x2 := (x1 &&& 858993459) + ((x1.toUInt32 >>> ((2 : Int32).toUInt32 &&& Int32.toUInt32 31)).toInt32 &&& 858993459)
  let x3 := (x2 + (x2.toUInt32 >>> ((4 : Int32).toUInt32 &&& Int32.toUInt32 31)).toInt32) &&& 252645135
  let x4 := x3 + (x3.toUInt32 >>> ((8 : Int32).toUInt32 &&& Int32.toUInt32 31)).toInt32
  let x5 := x4 + (x4.toUInt32 >>> ((16 : Int32).toUInt32 &&& Int32.toUInt32 31)).toInt32
  x5 &&& 63
/-- how many bits of a small number -/
def pcN (m : Nat) : Nat := ct m.testBit 6
theorem raw_bc : ∀ m, m < 64 → bcF (nI m) = nI (pcN m) := by decide +kernel
theorem pcN_le (m : Nat) : pcN m ≤ 6 := ct_le _ _
theorem ct_more (p : Nat → Bool) (m : Nat) : ∀ k, (∀ j, m ≤ j → p j = false) → ct p (m + k) = ct p m
  | 0, _ => rfl
  | k + 1, h => by
    rw [← Nat.add_assoc, ct, ct_more p m k h, h (m + k) (by omega)]
    simp
theorem pcN_mk (p : Nat → Bool) {n : Nat} (h : n ≤ 6) : pcN (mk p n) = ct p n := by
  unfold pcN
  have e : (6 : Nat) = n + (6 - n) := by omega
  rw [e, ct_more _ n (6 - n) (fun j hj => by rw [mk_bit]; have : ¬ j < n := by omega
                                             simp [this])]
  exact ct_cong (fun j hj => by rw [mk_bit]; simp [hj])
/-! who votes so; what a sitting comes to -/
def gB (tk ag : Nat → Int32) (un st : Nat) (cr : Bool) (mi : Int32) (j : Nat) : Bool := voB st j && (!(decide (tk j = 2) && un.testBit j) && (cr || (decide (tk j = 1) && decide (5 * ag j ≤ mi))))
def unB (tk : Nat → Int32) (un st : Nat) (j : Nat) : Bool := un.testBit j && !(voB st j && decide (tk j = 2))
def unF (nj : Nat) (tk : Nat → Int32) (un st : Nat) : Nat := mk (unB tk un st) nj
def vdF (nj : Nat) (tk ag : Nat → Int32) (un st : Nat) (cr : Bool) (mi : Int32) : Int32 := if ct (voB st) nj < 2 * ct (gB tk ag un st cr mi) nj then 1 else 0
def wbN (m j : Nat) (is : Int32) : Nat := if is = 0 then clr m j else set1 m j
theorem set1_mk {p : Nat → Bool} {i : Nat} (hi : i < 6) (hp : p i = true) : set1 (mk p i) i = mk p (i + 1) := by
  have h := mk_bit p i i
  simp at h
  rw [mk, if_pos hp, set1, h]
  simp
theorem mk_skip {p : Nat → Bool} {i : Nat} (hp : p i = false) : mk p i = mk p (i + 1) := by
  rw [mk, hp]; simp
def unBi (tk : Nat → Int32) (un st i : Nat) (j : Nat) : Bool := if j < i then unB tk un st j else un.testBit j
theorem un_at {tk : Nat → Int32} {un st nj i : Nat} (hi : i < nj) : (mk (unBi tk un st i) nj).testBit i = un.testBit i := by
  rw [mk_bit]; simp [hi, unBi]
theorem un_keep {tk : Nat → Int32} {un st nj i : Nat} (h : unB tk un st i = un.testBit i) : mk (unBi tk un st i) nj = mk (unBi tk un st (i + 1)) nj := by
  apply mk_cong
  intro j hj
  unfold unBi
  by_cases h1 : j < i
  · simp [h1, Nat.lt_succ_of_lt h1]
  · by_cases h2 : j = i
    · subst h2; simp [h]
    · have : ¬ j < i + 1 := by omega
      simp [h1, this]
theorem un_clr {tk : Nat → Int32} {un st nj i : Nat} (hn : nj ≤ 5) (hi : i < nj) (hb : unB tk un st i = false) : clr (mk (unBi tk un st i) nj) i = mk (unBi tk un st (i + 1)) nj := by
  have hl := mk_lt (unBi tk un st i) nj
  have hp := pow5 hn
  refine mk_of (clr_lt i hl) (fun j hj => ?_)
  rw [clr_bit _ (by omega) i (by omega) j (by omega), mk_bit]
  unfold unBi
  by_cases h1 : j < i
  · have : ¬ j = i := by omega
    simp [h1, hj, this, Nat.lt_succ_of_lt h1]
  · by_cases h2 : j = i
    · subst h2; simp [hb]
    · have : ¬ j < i + 1 := by omega
      simp [h1, h2, hj, this]
theorem un_vote {tk : Nat → Int32} {un st nj i : Nat} (hn : nj ≤ 5) (hi : i < nj) (hv : voB st i = true) : (if tk i = 2 ∧ (mk (unBi tk un st i) nj).testBit i = true then clr (mk (unBi tk un st i) nj) i else mk (unBi tk un st i) nj) = mk (unBi tk un st (i + 1)) nj := by
  rw [un_at hi]
  by_cases h : tk i = 2 ∧ un.testBit i = true
  · rw [if_pos h]
    exact un_clr hn hi (by simp [unB, hv, h.1])
  · rw [if_neg h]
    apply un_keep
    unfold unB
    by_cases h2 : tk i = 2
    · have : un.testBit i = false := by
        cases hb : un.testBit i
        · rfl
        · exact absurd ⟨h2, hb⟩ h
      simp [this]
    · simp [h2]
theorem un_0 {tk : Nat → Int32} {un st nj : Nat} (h : un < 2 ^ nj) : un = mk (unBi tk un st 0) nj := mk_of h (fun j _ => by simp [unBi])
theorem un_end {tk : Nat → Int32} {un st nj : Nat} : mk (unBi tk un st nj) nj = unF nj tk un st := mk_cong (fun j hj => by simp [unBi, hj])
/-- what a sitting comes to behind its first cases: verdicts, verdicts on deeds, sweets left, the minute, the weights, whether all are home -/
abbrev SitT : Type := (Nat → Int32) × (Nat → Int32) × Nat × Int32 × Int32 × Bool
def sitStep (nj : Nat) (tk ag : Nat → Int32) (st lw : Nat) (dn : Nat → Nat) (ta we : Nat → Int32) (si : Int32) (q : SitT) (c : Nat) : SitT :=
  if q.2.2.2.2.2 = true ∨ ¬ q.2.2.2.1 + (if q.2.1 (dn c) = -9 then ta c else 1) ≤ si then (upd q.1 c 2, q.2.1, q.2.2.1, q.2.2.2.1, q.2.2.2.2.1, true)
  else if q.2.1 (dn c) = -9 then
    (upd q.1 c (vdF nj tk ag q.2.2.1 st (lw.testBit (dn c)) (q.2.2.2.1 + ta c)), upd q.2.1 (dn c) (vdF nj tk ag q.2.2.1 st (lw.testBit (dn c)) (q.2.2.2.1 + ta c)), unF nj tk q.2.2.1 st, q.2.2.2.1 + ta c, (if vdF nj tk ag q.2.2.1 st (lw.testBit (dn c)) (q.2.2.2.1 + ta c) = 1 then q.2.2.2.2.1 + we c else q.2.2.2.2.1), false)
  else (upd q.1 c (q.2.1 (dn c)), q.2.1, q.2.2.1, q.2.2.2.1 + 1, (if q.2.1 (dn c) = 1 then q.2.2.2.2.1 + we c else q.2.2.2.2.1), false)
def sitS (nj : Nat) (tk ag : Nat → Int32) (st lw : Nat) (dn : Nat → Nat) (ta we : Nat → Int32) (si : Int32) (un : Nat) (o : Nat → Nat) : Nat → SitT
  | 0 => (fun _ => -9, fun _ => -9, un, 0, 0, false)
  | p + 1 => sitStep nj tk ag st lw dn ta we si (sitS nj tk ag st lw dn ta we si un o p) (o p)
theorem sit_un {nj : Nat} {tk ag : Nat → Int32} {st lw : Nat} {dn : Nat → Nat} {ta we : Nat → Int32} {si : Int32} {un : Nat} {o : Nat → Nat} (h : un < 2 ^ nj) : ∀ p, (sitS nj tk ag st lw dn ta we si un o p).2.2.1 < 2 ^ nj
  | 0 => h
  | p + 1 => by
    have ih := sit_un (tk := tk) (ag := ag) (st := st) (lw := lw) (dn := dn) (ta := ta) (we := we) (si := si) (o := o) h p
    rw [sitS, sitStep]
    (repeat' split) <;> first | exact ih | exact mk_lt _ _
theorem upd_at {f : Nat → Int32} {k : Nat} {x : Int32} : upd f k x k = x := by simp [upd]
theorem gB_iff {tk ag : Nat → Int32} {un st i : Nat} {b : Bool} {cr mi : Int32} (hv : voB st i = true) (hc : (¬ cr = 0) ↔ b = true) : gB tk ag un st b mi i = true ↔ (¬ (tk i = 2 ∧ un.testBit i = true) ∧ (¬ cr = 0 ∨ (tk i = 1 ∧ ¬ mi < 5 * ag i))) := by
  unfold gB
  rw [hv, hc]
  by_cases h1 : tk i = 2 <;> by_cases h2 : un.testBit i = true <;> by_cases h3 : b = true <;> by_cases h4 : tk i = 1 <;> by_cases h5 : mi < 5 * ag i <;> simp_all
theorem gB_no {tk ag : Nat → Int32} {un st i : Nat} {b : Bool} {cr mi : Int32} (hv : voB st i = true) (hc : (¬ cr = 0) ↔ b = true) (q : ¬ (¬ (tk i = 2 ∧ un.testBit i = true) ∧ (¬ cr = 0 ∨ (tk i = 1 ∧ ¬ mi < 5 * ag i)))) : gB tk ag un st b mi i = false := by
  rw [Bool.eq_false_iff]
  exact fun z => q ((gB_iff hv hc).mp z)
/-! the next order of a row -/
def rsN (g : Nat → Nat) : Nat → Option Nat
  | 0 => none
  | r + 1 => if g (r + 1) < g r then rsN g r else some r
def wtN (g : Nat → Nat) (r : Nat) : Nat → Nat
  | 0 => 0
  | w + 1 => if r < w + 1 ∧ g (w + 1) < g r then wtN g r w else w + 1
def swN (g : Nat → Nat) (p q : Nat) : Nat → Nat := fun i => if i = q then g p else if i = p then g q else g i
def rvN (g : Nat → Nat) : Nat → Nat → Nat → (Nat → Nat)
  | 0, _, _ => g
  | n + 1, l, r => if l < r then rvN (swN g l r) n (l + 1) (r - 1) else g
def nxN (L : Nat) (g : Nat → Nat) : Option (Nat → Nat) := match rsN g (L - 1) with
  | none => none
  | some r => some (rvN (swN g r (wtN g r (L - 1))) L (r + 1) (L - 1))
theorem sw_upd {f : Nat → Int32} {g : Nat → Nat} {L p q : Nat} (hf : ∀ i, i < L → f i = nI (g i)) (hp : p < L) (hq : q < L) : ∀ i, i < L → upd (upd f p (f q)) q (f p) i = nI (swN g p q i) := by
  intro i hi
  unfold upd swN
  by_cases h1 : i = q
  · simp [h1, hf p hp]
  · by_cases h2 : i = p
    · subst h2; simp [h1, hf q hq]
    · simp [h1, h2, hf i hi]
theorem wt_le (g : Nat → Nat) (r : Nat) : ∀ w, wtN g r w ≤ w
  | 0 => Nat.le_refl _
  | w + 1 => by
    rw [wtN]
    split
    · have := wt_le g r w
      omega
    · exact Nat.le_refl _
theorem sw_lt {g : Nat → Nat} {L p q : Nat} (h : ∀ i, i < L → g i < 5) (hp : p < L) (hq : q < L) : ∀ i, i < L → swN g p q i < 5 := by
  intro i hi
  unfold swN
  split
  · exact h p hp
  · split
    · exact h q hq
    · exact h i hi
/-! texts -/
def dgB (x le mo : Int32) : Bool := !decide (x < 48 + le) && !decide (48 + mo < x)
def kdF (x : Int32) : Int32 := if x = 99 then 0 else if x = 104 then 1 else if x = 115 then 2 else -9
def tmF (f : Nat → Int32) : Int32 := 10 * (f 1 - 48) + (f 2 - 48)
def gmB (f : Nat → Int32) (p : Nat) : Bool := if p = 1 then dgB (f p) 0 6 else dgB (f p) 0 9 && (!decide (tmF f < 5) && !decide (60 < tmF f))
def gjB (f : Nat → Int32) (p : Nat) : Bool := if (p - 3) % 3 = 0 then (decide (f p = 44) && decide ((p - 3) / 3 < 5)) || (decide (f p = 59) && decide (0 < (p - 3) / 3)) else if (p - 3) % 3 = 1 then !decide (kdF (f p) = -9) else dgB (f p) 1 9
def gcB (f : Nat → Int32) (p c : Nat) : Bool := if (p - c) % 4 = 0 then decide (f p = 59) && decide ((p - c) / 4 < 5) else if (p - c) % 4 = 1 then dgB (f p) 0 5 else dgB (f p) 1 9
def goB (f : Nat → Int32) (p : Nat) (cf : Option Nat) : Bool := if p = 0 then decide (f p = 107) else if p < 3 then gmB f p else match cf with
  | none => gjB f p
  | some c => gcB f p c
def cfI (cf : Option Nat) : Int32 := match cf with
  | none => -9
  | some c => nI c
/-- where the first ; stands among the first p codes -/
def cfN (f : Nat → Int32) : Nat → Option Nat
  | 0 => none
  | p + 1 => match cfN f p with
    | some c => some c
    | none => if f p = 59 then some p else none
theorem cfN_lt {f : Nat → Int32} : ∀ {p c : Nat}, cfN f p = some c → c < p
  | 0, c, h => by cases h
  | p + 1, c, h => by
    rw [cfN] at h
    cases hq : cfN f p with
    | some d =>
      rw [hq] at h
      cases h
      exact Nat.lt_succ_of_lt (cfN_lt hq)
    | none =>
      rw [hq] at h
      dsimp only at h
      split at h
      · cases h
        omega
      · cases h
def whC (cf : Option Nat) (n : Nat) : Bool := match cf with
  | none => false
  | some c => decide ((n - c) % 4 = 0)
def whB (f : Nat → Int32) (n : Nat) : Bool := whC (cfN f n) n
/-- the first fault from p on, with k codes to look at; none: a text -/
def ffR (f : Nat → Int32) (n : Nat) : Nat → Nat → Option Nat
  | 0, _ => if whB f n then none else some n
  | k + 1, p => if goB f p (cfN f p) then ffR f n k (p + 1) else some p
def ffF (f : Nat → Int32) (n : Nat) : Option Nat := ffR f n n 0
theorem nI_ne9 {c : Nat} (h : c < 2 ^ 31) : ¬ nI c = -9 := by
  intro q
  have h1 := nI_toInt h
  rw [q] at h1
  have h2 : (-9 : Int32).toInt = -9 := by decide
  rw [h2] at h1
  omega
theorem cfN_none {f : Nat → Int32} {p : Nat} (h : cfN f p = none) (h2 : ¬ f p = 59) : cfN f (p + 1) = none := by rw [cfN, h]; simp [h2]
theorem cfN_semi {f : Nat → Int32} {p : Nat} (h : cfN f p = none) (h2 : f p = 59) : cfN f (p + 1) = some p := by rw [cfN, h]; simp [h2]
theorem cfN_some {f : Nat → Int32} {p c : Nat} (h : cfN f p = some c) : cfN f (p + 1) = some c := by rw [cfN, h]
theorem ffR_go {f : Nat → Int32} {n p : Nat} (hp : p < n) (h : goB f p (cfN f p) = true) : ffR f n (n - p) p = ffR f n (n - (p + 1)) (p + 1) := by
  obtain ⟨k, hk⟩ : ∃ k, n - p = k + 1 := ⟨n - p - 1, by omega⟩
  rw [hk, ffR, if_pos h, show n - (p + 1) = k by omega]
theorem ffR_no {f : Nat → Int32} {n p : Nat} (hp : p < n) (h : ¬ goB f p (cfN f p) = true) : ffR f n (n - p) p = some p := by
  obtain ⟨k, hk⟩ : ∃ k, n - p = k + 1 := ⟨n - p - 1, by omega⟩
  rw [hk, ffR, if_neg h]
/-- a row whose first places have been laid anew -/
def tbF (v f : Nat → Int32) (i : Nat) : Nat → Int32 := fun j => if j < i then v j else f j
theorem tbF_0 (v f : Nat → Int32) : tbF v f 0 = f := by funext j; simp [tbF]
theorem tbF_s (v f : Nat → Int32) (i : Nat) : upd (tbF v f i) i (v i) = tbF v f (i + 1) := by
  funext j
  unfold upd tbF
  by_cases h : j = i
  · subst h; simp
  · by_cases h2 : j < i
    · simp [h, h2, Nat.lt_succ_of_lt h2]
    · have : ¬ j < i + 1 := by omega
      simp [h, h2, this]
theorem tbF_in {v f : Nat → Int32} {i j : Nat} (h : j < i) : tbF v f i j = v j := by simp [tbF, h]
theorem ff_ok {g : Nat → Int32} {n p : Nat} {cf : Option Nat} (hff : ffR g n n 0 = ffR g n (n - p) p) (e : p = n) (hcf : cf = cfN g p) (h : whC cf n = true) : ffF g n = none ∧ cf = cfN g n := by
  subst e
  refine ⟨?_, hcf⟩
  rw [ffF, hff, Nat.sub_self, ffR, if_pos]
  rw [whB, ← hcf]; exact h
theorem ff_short {g : Nat → Int32} {n p : Nat} {cf : Option Nat} (hff : ffR g n n 0 = ffR g n (n - p) p) (e : p = n) (hcf : cf = cfN g p) (h : ¬ whC cf n = true) : ffF g n = some n := by
  subst e
  rw [ffF, hff, Nat.sub_self, ffR, if_neg]
  rw [whB, ← hcf]; exact h
theorem ff_no {g : Nat → Int32} {n p : Nat} {cf : Option Nat} (hff : ffR g n n 0 = ffR g n (n - p) p) (hp : p < n) (hcf : cf = cfN g p) (h : ¬ goB g p cf = true) : ffF g n = some p := by
  rw [ffF, hff, ffR_no hp (by rw [← hcf]; exact h)]
