section ZZM3
variable {MB : Nat → Nat → Bool} {MI : Nat → Nat → Int32} {n : Nat} {mt : Int32} {T : zz_St}
/-- places (a, b) of the relation r become G's, row by row, up to (i, k) -/
def gsc (r n i k x : Nat) : Bool := decide (6400 * r ≤ x) && (decide ((x - 6400 * r) / 80 < n) && (decide ((x - 6400 * r) % 80 < n) && (decide ((x - 6400 * r) / 80 < i) || (decide ((x - 6400 * r) / 80 = i) && decide ((x - 6400 * r) % 80 < k)))))
def gs (f : Nat → Bool) (r n i k : Nat) (G : Nat → Nat → Bool) : Nat → Bool := fun x => if gsc r n i k x = true then G ((x - 6400 * r) / 80) ((x - 6400 * r) % 80) else f x
theorem gsc_t {r n i k x : Nat} : gsc r n i k x = true ↔ 6400 * r ≤ x ∧ (x - 6400 * r) / 80 < n ∧ (x - 6400 * r) % 80 < n ∧ ((x - 6400 * r) / 80 < i ∨ ((x - 6400 * r) / 80 = i ∧ (x - 6400 * r) % 80 < k)) := by
  unfold gsc
  simp only [Bool.and_eq_true, Bool.or_eq_true, decide_eq_true_eq]
theorem gs_q {r i k : Nat} (hk : k < 80) : (6400 * r + 80 * i + k - 6400 * r) / 80 = i ∧ (6400 * r + 80 * i + k - 6400 * r) % 80 = k := by
  rw [Nat.add_assoc, Nat.add_sub_cancel_left]
  exact ⟨by rw [Nat.mul_add_div (by decide), Nat.div_eq_of_lt hk, Nat.add_zero], by rw [Nat.mul_add_mod, Nat.mod_eq_of_lt hk]⟩
theorem gs_x {r x : Nat} (h : 6400 * r ≤ x) : x = 6400 * r + 80 * ((x - 6400 * r) / 80) + (x - 6400 * r) % 80 := by
  have := Nat.div_add_mod (x - 6400 * r) 80
  omega
def anb (f : Nat → Bool) : Nat → Bool
  | 0 => false
  | k + 1 => anb f k || f k
theorem anb_t {f : Nat → Bool} : ∀ {n : Nat}, anb f n = true ↔ ∃ k, k < n ∧ f k = true
  | 0 => ⟨fun h => (by cases h), fun ⟨k, h, _⟩ => absurd h (Nat.not_lt_zero k)⟩
  | n + 1 => by
    show (anb f n || f n) = true ↔ _
    rw [Bool.or_eq_true, anb_t]
    constructor
    · rintro (⟨k, h1, h2⟩ | h)
      · exact ⟨k, by omega, h2⟩
      · exact ⟨n, by omega, h⟩
    · rintro ⟨k, h1, h2⟩
      by_cases e : k = n
      · subst e; exact Or.inr h2
      · exact Or.inl ⟨k, by omega, h2⟩
theorem anb_m {f : Nat → Bool} {i n : Nat} (hi : i ≤ n) (h : anb f i = true) : anb f n = true := by
  obtain ⟨k, h1, h2⟩ := anb_t.mp h
  exact anb_t.mpr ⟨k, by omega, h2⟩
end ZZM3
