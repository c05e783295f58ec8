section ZZM1
variable {MB : Nat → Nat → Bool} {MI : Nat → Nat → Int32} {n : Nat} {mt : Int32} {T : zz_St}
def isR (v : Int32) : Bool := decide (0 ≤ v) && decide (v ≤ 3)
def isE (n : Nat) (v : Int32) : Bool := decide (0 ≤ v) && decide (v ≤ nI n - 1)
def isG (n : Nat) (a b : Int32) : Bool := decide (0 ≤ a) && (decide (a ≤ b) && decide (b ≤ nI n))
theorem nn0 {v : Int32} : 0 ≤ v ↔ ¬ v < 0 := Int32.not_lt.symm
theorem isR_n : ∀ r, r < 4 → isR (nI r) = true := by decide
theorem isE_n {n j : Nat} (hn : n ≤ 80) (h : j < n) : isE n (nI j) = true := by
  unfold isE
  rw [Bool.and_eq_true, decide_eq_true_iff, decide_eq_true_iff, nn0, show nI n - 1 = nI (n - 1) from pk_sub (b := 1) (show 1 ≤ n by omega)]
  exact ⟨nI_pos (by omega), nI_le (by omega) (by omega)⟩
/-- the sum of g below n -/
def sm (g : Nat → Nat) : Nat → Nat
  | 0 => 0
  | k + 1 => sm g k + g k
end ZZM1
