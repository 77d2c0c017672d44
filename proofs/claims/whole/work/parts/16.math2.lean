/-! what the text tells -/
def vKd (tc : Nat → Int32) : Nat → Int32 := fun j => kdF (tc (3 + 3 * j + 1))
def vAg (tc : Nat → Int32) : Nat → Int32 := fun j => tc (3 + 3 * j + 2) - 48
def vCa (tc : Nat → Int32) (F v : Nat) : Nat → Int32 := fun c => tc (F + 4 * c + 1 + v) - 48
/-- all readings are so -/
def arB (ve : Nat → Int32) (rn : Nat → Nat) (rh : Nat → Int32) : Nat → Bool
  | 0 => true
  | r + 1 => arB ve rn rh r && decide (ve (rn r) = rh r)
theorem arB_no {ve : Nat → Int32} {rn : Nat → Nat} {rh : Nat → Int32} {q : Nat} (h : ¬ ve (rn q) = rh q) : ∀ n, q < n → arB ve rn rh n = false
  | 0, hq => absurd hq (by omega)
  | n + 1, hq => by
    rw [arB]
    by_cases e : q = n
    · subst e; simp [h]
    · rw [arB_no h n (by omega)]; rfl
/-- the most by the court's strike behind a father's -/
def mbS (val : Nat → Int32) (x : Nat) : Nat → Int32
  | 0 => -9
  | j + 1 => if x.testBit j = true then mbS val x j else (if mbS val x j < val (set1 x j) then val (set1 x j) else mbS val x j)
def mbF (val : Nat → Int32) (x nj : Nat) : Int32 := if mbS val x nj = -9 then val x else mbS val x nj
/-- orders, by their numbers -/
def fct : Nat → Nat
  | 0 => 1
  | n + 1 => (n + 1) * fct n
def pt0 : List (List Nat) := [[]]
def pt1 : List (List Nat) := [[0]]
def pt2 : List (List Nat) := [[0, 1], [1, 0]]
def pt3 : List (List Nat) := [[0, 1, 2], [0, 2, 1], [1, 0, 2], [1, 2, 0], [2, 0, 1], [2, 1, 0]]
def pt4 : List (List Nat) := [[0, 1, 2, 3], [0, 1, 3, 2], [0, 2, 1, 3], [0, 2, 3, 1], [0, 3, 1, 2], [0, 3, 2, 1], [1, 0, 2, 3], [1, 0, 3, 2], [1, 2, 0, 3], [1, 2, 3, 0], [1, 3, 0, 2], [1, 3, 2, 0], [2, 0, 1, 3], [2, 0, 3, 1], [2, 1, 0, 3], [2, 1, 3, 0], [2, 3, 0, 1], [2, 3, 1, 0], [3, 0, 1, 2], [3, 0, 2, 1], [3, 1, 0, 2], [3, 1, 2, 0], [3, 2, 0, 1], [3, 2, 1, 0]]
def pt5 : List (List Nat) := [[0, 1, 2, 3, 4], [0, 1, 2, 4, 3], [0, 1, 3, 2, 4], [0, 1, 3, 4, 2], [0, 1, 4, 2, 3], [0, 1, 4, 3, 2], [0, 2, 1, 3, 4], [0, 2, 1, 4, 3], [0, 2, 3, 1, 4], [0, 2, 3, 4, 1], [0, 2, 4, 1, 3], [0, 2, 4, 3, 1], [0, 3, 1, 2, 4], [0, 3, 1, 4, 2], [0, 3, 2, 1, 4], [0, 3, 2, 4, 1], [0, 3, 4, 1, 2], [0, 3, 4, 2, 1], [0, 4, 1, 2, 3], [0, 4, 1, 3, 2], [0, 4, 2, 1, 3], [0, 4, 2, 3, 1], [0, 4, 3, 1, 2], [0, 4, 3, 2, 1], [1, 0, 2, 3, 4], [1, 0, 2, 4, 3], [1, 0, 3, 2, 4], [1, 0, 3, 4, 2], [1, 0, 4, 2, 3], [1, 0, 4, 3, 2], [1, 2, 0, 3, 4], [1, 2, 0, 4, 3], [1, 2, 3, 0, 4], [1, 2, 3, 4, 0], [1, 2, 4, 0, 3], [1, 2, 4, 3, 0], [1, 3, 0, 2, 4], [1, 3, 0, 4, 2], [1, 3, 2, 0, 4], [1, 3, 2, 4, 0], [1, 3, 4, 0, 2], [1, 3, 4, 2, 0], [1, 4, 0, 2, 3], [1, 4, 0, 3, 2], [1, 4, 2, 0, 3], [1, 4, 2, 3, 0], [1, 4, 3, 0, 2], [1, 4, 3, 2, 0], [2, 0, 1, 3, 4], [2, 0, 1, 4, 3], [2, 0, 3, 1, 4], [2, 0, 3, 4, 1], [2, 0, 4, 1, 3], [2, 0, 4, 3, 1], [2, 1, 0, 3, 4], [2, 1, 0, 4, 3], [2, 1, 3, 0, 4], [2, 1, 3, 4, 0], [2, 1, 4, 0, 3], [2, 1, 4, 3, 0], [2, 3, 0, 1, 4], [2, 3, 0, 4, 1], [2, 3, 1, 0, 4], [2, 3, 1, 4, 0], [2, 3, 4, 0, 1], [2, 3, 4, 1, 0], [2, 4, 0, 1, 3], [2, 4, 0, 3, 1], [2, 4, 1, 0, 3], [2, 4, 1, 3, 0], [2, 4, 3, 0, 1], [2, 4, 3, 1, 0], [3, 0, 1, 2, 4], [3, 0, 1, 4, 2], [3, 0, 2, 1, 4], [3, 0, 2, 4, 1], [3, 0, 4, 1, 2], [3, 0, 4, 2, 1], [3, 1, 0, 2, 4], [3, 1, 0, 4, 2], [3, 1, 2, 0, 4], [3, 1, 2, 4, 0], [3, 1, 4, 0, 2], [3, 1, 4, 2, 0], [3, 2, 0, 1, 4], [3, 2, 0, 4, 1], [3, 2, 1, 0, 4], [3, 2, 1, 4, 0], [3, 2, 4, 0, 1], [3, 2, 4, 1, 0], [3, 4, 0, 1, 2], [3, 4, 0, 2, 1], [3, 4, 1, 0, 2], [3, 4, 1, 2, 0], [3, 4, 2, 0, 1], [3, 4, 2, 1, 0], [4, 0, 1, 2, 3], [4, 0, 1, 3, 2], [4, 0, 2, 1, 3], [4, 0, 2, 3, 1], [4, 0, 3, 1, 2], [4, 0, 3, 2, 1], [4, 1, 0, 2, 3], [4, 1, 0, 3, 2], [4, 1, 2, 0, 3], [4, 1, 2, 3, 0], [4, 1, 3, 0, 2], [4, 1, 3, 2, 0], [4, 2, 0, 1, 3], [4, 2, 0, 3, 1], [4, 2, 1, 0, 3], [4, 2, 1, 3, 0], [4, 2, 3, 0, 1], [4, 2, 3, 1, 0], [4, 3, 0, 1, 2], [4, 3, 0, 2, 1], [4, 3, 1, 0, 2], [4, 3, 1, 2, 0], [4, 3, 2, 0, 1], [4, 3, 2, 1, 0]]
def prT : Nat → List (List Nat)
  | 0 => pt0
  | 1 => pt1
  | 2 => pt2
  | 3 => pt3
  | 4 => pt4
  | _ => pt5
def prm (L k : Nat) : Nat → Nat := fun p => ((prT L).getD k []).getD p 0
theorem prm_0 : ∀ L, L < 6 → ∀ p, p < L → prm L 0 p = p := by decide +kernel
theorem prm_lt : ∀ L, L < 6 → ∀ k, k < fct L → ∀ p, p < L → prm L k p < L := by decide +kernel
theorem prm_inj : ∀ L, L < 6 → ∀ k, k < fct L → ∀ p, p < L → ∀ q, q < L → prm L k p = prm L k q → p = q := by decide +kernel
def nxL (L : Nat) (g : Nat → Nat) : Option (List Nat) := (nxN L g).map (fun h => (List.range L).map h)
theorem prm_nx : ∀ L, L < 6 → 1 ≤ L → ∀ k, k < fct L → nxL L (prm L k) = if k + 1 < fct L then some ((List.range L).map (prm L (k + 1))) else none := by decide +kernel
theorem fct_le : ∀ L, L < 6 → fct L ≤ 120 := by decide +kernel
theorem fct_pos : ∀ L, L < 6 → 1 ≤ fct L := by decide +kernel
theorem prm_none {L k : Nat} (hL : L < 6) (h1 : 1 ≤ L) (hk : k < fct L) (h : nxN L (prm L k) = none) : k + 1 = fct L := by
  have q := prm_nx L hL h1 k hk
  unfold nxL at q
  rw [h] at q
  by_cases c : k + 1 < fct L
  · rw [if_pos c] at q; cases q
  · omega
theorem prm_some {L k : Nat} {g : Nat → Nat} (hL : L < 6) (h1 : 1 ≤ L) (hk : k < fct L) (h : nxN L (prm L k) = some g) : k + 1 < fct L ∧ ∀ p, p < L → g p = prm L (k + 1) p := by
  have q := prm_nx L hL h1 k hk
  unfold nxL at q
  rw [h] at q
  by_cases c : k + 1 < fct L
  · rw [if_pos c] at q
    refine ⟨c, fun p hp => ?_⟩
    have e := Option.some.inj q
    have e2 := congrArg (fun l => l[p]?) e
    simpa [hp] using e2
  · rw [if_neg c] at q; cases q
