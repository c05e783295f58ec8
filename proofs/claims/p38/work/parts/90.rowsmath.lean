section ZYR
variable {El : Nat → Int32} {Lo Hi : Nat → Nat → Int64} {BL BH : Nat → Int64} {Od : Nat → Nat → Int32} {Ls : Nat → Int32} {n : Nat} {R : Nat → Nat → Nat → Bool} {mk : Nat → Bool} {MB : Nat → Nat → Bool} {rho nu : Nat → Int32} {T : zz_St}
/-- the end of a trial: it is right -/
def trQ (n : Nat) (T : zz_St) : zz_Q := fun o τ => ∃ R mk MB rho nu, xQ n R mk (pl MB rho nu T) (.inl (some (.int 1))) o τ
theorem trQ_i (h : cI n El Lo Hi BL BH R mk) : trQ n T (.inl (some (.int 1))) (px El Lo Hi BL BH Od Ls (nI n) (pl MB rho nu T)) := ⟨R, mk, MB, rho, nu, xQ_i rfl h⟩
theorem bq_t {a b : Bool} (h : zB a = zB b) : (a == b) = true := by
  rw [zB_inj.mp h]
  cases b <;> rfl
theorem bq_f {a b : Bool} (h : ¬ zB a = zB b) : (a == b) = false := by
  cases a <;> cases b <;> first | rfl | exact absurd rfl h
theorem hp_1 {h : Nat} (q : nI (h % 2) = 0) : (1 : Int32) = zB (h % 2 == 0) := by
  rcases Nat.mod_two_eq_zero_or_one h with e | e
  · rw [e]; rfl
  · rw [e] at q
    exact absurd q (by decide)
theorem hp_0 {h : Nat} (q : ¬ nI (h % 2) = 0) : (0 : Int32) = zB (h % 2 == 0) := by
  rcases Nat.mod_two_eq_zero_or_one h with e | e
  · rw [e] at q
    exact absurd (by decide) q
  · rw [e]; rfl
/-- an element, or the place before the first -/
def dnX : Nat → Int32
  | 0 => -1
  | t + 1 => nI t
theorem dnX_p (t : Nat) : nI t + (-1) = dnX t := by
  cases t with
  | zero => decide
  | succ t =>
    show nI (t + 1) + (-1) = nI t
    rw [← nI_1, Int32.add_assoc, show ((1 : Int32) + (-1)) = 0 from by decide, Int32.add_zero]
theorem up_x {f : Nat → Bool} {p j : Nat} {v : Int32} (hn : n ≤ 80) (h1 : p ≤ j) (h2 : j ≤ n) (h3 : ∀ q, p ≤ q → q < j → f q = false) (h4 : j < n → f j = true) (h : upS f n p v) : (nI n ≤ nI j → v = -1) ∧ (¬ nI n ≤ nI j → v = nI j) := by
  rcases h with ⟨rfl, h5⟩ | ⟨k, k1, k2, k3, k4, rfl⟩
  · refine ⟨fun _ => rfl, fun q => ?_⟩
    by_cases e : j < n
    · rw [h5 j h1 e] at h4
      exact absurd (h4 e) (by decide)
    · exact absurd (nI_le (by omega) (by omega)) q
  · have e : j = k := by
      rcases Nat.lt_trichotomy j k with q | q | q
      · rw [k4 j h1 q] at h4
        exact absurd (h4 (by omega)) (by decide)
      · exact q
      · rw [h3 k k1 q] at k3
        cases k3
    subst e
    exact ⟨fun q => absurd q (nI_ge k2 (by omega)), fun _ => rfl⟩
theorem dn_x {f : Nat → Bool} {p t : Nat} {v : Int32} (hn : n ≤ 80) (hp : p < n) (h1 : t ≤ p + 1) (h3 : ∀ q, t ≤ q → q ≤ p → f q = false) (h4 : ∀ s, t = s + 1 → f s = true) (h : dnS f p v) : (nI n ≤ dnX t → v = -1) ∧ (¬ nI n ≤ dnX t → v = dnX t) := by
  have hlt : ¬ nI n ≤ dnX t := by
    cases t with
    | zero =>
      show ¬ nI n ≤ -1
      intro q
      exact absurd (Int32.le_trans (nI_pos' (n := n) (by omega)) q) (by decide)
    | succ s => exact nI_ge (a := s) (by omega) (by omega)
  refine ⟨fun q => absurd q hlt, fun _ => ?_⟩
  rcases h with ⟨rfl, h5⟩ | ⟨k, k1, k2, k3, rfl⟩
  · cases t with
    | zero => rfl
    | succ s =>
      have h6 := h4 s rfl
      rw [h5 s (by omega)] at h6
      cases h6
  · cases t with
    | zero =>
      rw [h3 k (Nat.zero_le k) k1] at k2
      cases k2
    | succ s =>
      have e : k = s := by
        rcases Nat.lt_trichotomy k s with q | q | q
        · have h6 := h4 s rfl
          rw [k3 s q (by omega)] at h6
          cases h6
        · exact q
        · rw [h3 k (by omega) k1] at k2
          cases k2
      rw [e]
      rfl
end ZYR
