section ZZM7
variable {MB : Nat → Nat → Bool} {MI : Nat → Nat → Int32} {n : Nat} {mt : Int32} {T : zz_St}
def upS (f : Nat → Bool) (n p : Nat) (v : Int32) : Prop := (v = -1 ∧ ∀ k, p ≤ k → k < n → f k = false) ∨ ∃ k, p ≤ k ∧ k < n ∧ f k = true ∧ (∀ j, p ≤ j → j < k → f j = false) ∧ v = nI k
def dnS (f : Nat → Bool) (p : Nat) (v : Int32) : Prop := (v = -1 ∧ ∀ k, k ≤ p → f k = false) ∨ ∃ k, k ≤ p ∧ f k = true ∧ (∀ j, k < j → j ≤ p → f j = false) ∧ v = nI k
def wrd (G : Nat → Bool) : Nat → Int64
  | 0 => 0
  | k + 1 => if G k = true then wrd G k ||| ((1 : Int64) <<< ((nI k).toInt64 &&& 63)) else wrd G k
def isW (v : Int32) : Bool := decide (0 ≤ v) && decide (v ≤ 1)
theorem cnt_le (f : Nat → Bool) : ∀ k, cnt f k ≤ k
  | 0 => Nat.le_refl 0
  | k + 1 => by
    have := cnt_le f k
    show (if f k = true then cnt f k + 1 else cnt f k) ≤ k + 1
    split <;> omega
theorem sm_le {g : Nat → Nat} {b : Nat} (h : ∀ k, g k ≤ b) : ∀ k, sm g k ≤ k * b
  | 0 => Nat.zero_le _
  | k + 1 => by
    have := sm_le h k
    have := h k
    show sm g k + g k ≤ _
    rw [Nat.succ_mul]
    omega
def eom (f : Nat → Bool) : Nat → Nat
  | 0 => 0
  | k + 1 => if f k = true then k + 1 else eom f k
end ZZM7
