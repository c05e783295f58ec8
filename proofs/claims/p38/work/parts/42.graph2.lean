section ZZGR2
/-! a walk, if there is one, is one of n steps at most -/
def rchB (R : Nat → Nat → Bool) (n i k : Nat) : Bool := anb (fun m => wkb R n i (m + 1) k) n
theorem rw_st {R : Nat → Nat → Bool} {n i m : Nat} (h : ∀ k, k < n → wkb R n i (m + 1) k = true → anb (fun t => wkb R n i (t + 1) k) m = true) : ∀ q k, k < n → wkb R n i (m + q + 1) k = true → anb (fun t => wkb R n i (t + 1) k) m = true := by
  intro q
  induction q with
  | zero => exact h
  | succ q ih =>
    intro k hk hw
    obtain ⟨j, hj, h1, h2⟩ := wkb_s.mp hw
    obtain ⟨t, ht, h3⟩ := anb_t.mp (ih j hj h1)
    have h4 : wkb R n i (t + 1 + 1) k = true := wkb_s.mpr ⟨j, hj, h3, h2⟩
    by_cases e : t + 1 = m
    · rw [e] at h4; exact h k hk h4
    · exact anb_t.mpr ⟨t + 1, by omega, h4⟩
theorem rw_cnt {R : Nat → Nat → Bool} {n i : Nat} : ∀ m, m ≤ cnt (fun k => anb (fun t => wkb R n i (t + 1) k) m) n ∨ ∃ q, q ≤ m ∧ ∀ k, k < n → wkb R n i (q + 1) k = true → anb (fun t => wkb R n i (t + 1) k) q = true
  | 0 => Or.inl (Nat.zero_le _)
  | m + 1 => by
    rcases rw_cnt (R := R) (n := n) (i := i) m with h | ⟨q, hq, h⟩
    · by_cases hs : ∀ k, k < n → wkb R n i (m + 1) k = true → anb (fun t => wkb R n i (t + 1) k) m = true
      · exact Or.inr ⟨m, by omega, hs⟩
      · refine Or.inl ?_
        have ⟨k, hk⟩ := Classical.not_forall.mp hs
        have ⟨hkn, hk2⟩ := Classical.not_imp.mp hk
        have ⟨hw, hn⟩ := Classical.not_imp.mp hk2
        have h0 : anb (fun t => wkb R n i (t + 1) k) m = false := by simpa using hn
        have h1 : cnt (va_up (fun k => anb (fun t => wkb R n i (t + 1) k) m) k true) n = cnt (fun k => anb (fun t => wkb R n i (t + 1) k) m) n + 1 := cnt_up hkn h0 (up_at _ _ _) (fun j _ hj => (up_ne (fun k => anb (fun t => wkb R n i (t + 1) k) m) true hj).symm)
        have h2 : cnt (va_up (fun k => anb (fun t => wkb R n i (t + 1) k) m) k true) n ≤ cnt (fun k => anb (fun t => wkb R n i (t + 1) k) (m + 1)) n := cnt_mono (fun j _ hj => by
          by_cases e : j = k
          · subst e; exact anb_t.mpr ⟨m, by omega, hw⟩
          · rw [up_ne _ _ e] at hj; exact anb_m (by omega) hj)
        omega
    · exact Or.inr ⟨q, by omega, h⟩
theorem cnt_all {f : Nat → Bool} {n : Nat} (h : n ≤ cnt f n) : ∀ k, k < n → f k = true := by
  intro k hk
  cases e : f k
  · exact absurd (cnt_lt hk e) (by omega)
  · rfl
theorem rchB_t {R : Nat → Nat → Bool} {n i k : Nat} (hk : k < n) : rchB R n i k = true ↔ rch R n i k := by
  constructor
  · intro h
    obtain ⟨m, _, h1⟩ := anb_t.mp h
    exact ⟨m, h1⟩
  · rintro ⟨m, hm⟩
    rcases rw_cnt (R := R) (n := n) (i := i) n with h | ⟨q, hq, h⟩
    · exact cnt_all h k hk
    · by_cases e : m < q
      · exact anb_t.mpr ⟨m, by omega, hm⟩
      · have := rw_st h (m - q) k hk (by rw [show q + (m - q) = m by omega]; exact hm)
        exact anb_m hq this
theorem rchB_f {R : Nat → Nat → Bool} {n i k : Nat} (hk : k < n) : rchB R n i k = false ↔ ¬ rch R n i k := by
  rw [← rchB_t hk]; simp
theorem gs_c {f : Nat → Bool} {r n i k : Nat} {G H : Nat → Nat → Bool} (h : ∀ a b, a < n → b < n → G a b = H a b) : gs f r n i k G = gs f r n i k H := by
  funext x
  unfold gs
  by_cases e : gsc r n i k x = true
  · rw [if_pos e, if_pos e]
    obtain ⟨_, h1, h2, _⟩ := gsc_t.mp e
    exact h _ _ h1 h2
  · rw [if_neg e, if_neg e]
theorem gs_up {f : Nat → Bool} {n a b : Nat} {H : Nat → Nat → Bool} (hn : n ≤ 80) (ha : a < n) (hb : b < n) (v : Bool) : va_up (gs f 0 n n 0 H) (80 * a + b) v = gs f 0 n n 0 (fun i k => if i = a ∧ k = b then v else H i k) := by
  funext x
  have hq := gs_q (r := 0) (i := a) (k := b) (by omega)
  rw [Nat.mul_zero, Nat.zero_add] at hq
  unfold va_up
  by_cases e : x = 80 * a + b
  · rw [if_pos e, e]
    unfold gs
    have hc : gsc 0 n n 0 (80 * a + b) = true := by
      rw [gsc_t, Nat.mul_zero, hq.1, hq.2]
      exact ⟨by omega, ha, hb, Or.inl ha⟩
    rw [if_pos hc, Nat.mul_zero, hq.1, hq.2]
    exact (if_pos ⟨rfl, rfl⟩).symm
  · rw [if_neg e]
    unfold gs
    by_cases h : gsc 0 n n 0 x = true
    · rw [if_pos h, if_pos h]
      refine (if_neg ?_).symm
      rintro ⟨h1, h2⟩
      have h3 := gs_x (gsc_t.mp h).1
      rw [h1, h2] at h3
      exact e (by omega)
    · rw [if_neg h, if_neg h]
end ZZGR2
