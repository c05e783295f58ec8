section ZZOR
/-! the first order; longest walks -/
theorem ff_s {f : Nat → Bool} : ∀ {m i z : Nat}, ff f m i = z → (z = i + m ∧ ∀ k, i ≤ k → k < i + m → f k = false) ∨ (i ≤ z ∧ z < i + m ∧ f z = true ∧ ∀ k, i ≤ k → k < z → f k = false)
  | 0, i, z, h => Or.inl ⟨h.symm, fun k h1 h2 => absurd h2 (by omega)⟩
  | m + 1, i, z, h => by
    cases e : f i
    · rw [ff_f e] at h
      rcases ff_s h with ⟨h1, h2⟩ | ⟨h1, h2, h3, h4⟩
      · refine Or.inl ⟨by omega, fun k h3 h4 => ?_⟩
        by_cases q : k = i
        · rw [q]; exact e
        · exact h2 k (by omega) (by omega)
      · refine Or.inr ⟨by omega, by omega, h3, fun k h5 h6 => ?_⟩
        by_cases q : k = i
        · rw [q]; exact e
        · exact h4 k (by omega) h6
    · rw [ff_t e] at h
      subst h
      exact Or.inr ⟨Nat.le_refl i, by omega, e, fun k h1 h2 => absurd h1 (by omega)⟩
theorem ff_is {f : Nat → Bool} {m i z : Nat} (h1 : i ≤ z) (h2 : z < i + m) (h3 : f z = true) (h4 : ∀ k, i ≤ k → k < z → f k = false) : ff f m i = z := by
  rcases ff_s (rfl : ff f m i = ff f m i) with ⟨q1, q2⟩ | ⟨q1, q2, q3, q4⟩
  · rw [q2 z h1 h2] at h3; cases h3
  · rcases Nat.lt_trichotomy (ff f m i) z with h | h | h
    · rw [h4 _ q1 h] at q3; cases q3
    · exact h
    · rw [q4 z h1 h] at h3; cases h3
theorem ff_c {f g : Nat → Bool} : ∀ {m i : Nat}, (∀ k, i ≤ k → k < i + m → f k = g k) → ff f m i = ff g m i
  | 0, _, _ => rfl
  | m + 1, i, h => by
    have e := h i (Nat.le_refl i) (by omega)
    cases q : f i
    · rw [ff_f q, ff_f (e ▸ q)]
      exact ff_c (fun k h1 h2 => h k (by omega) (by omega))
    · rw [ff_t q, ff_t (e ▸ q)]
/-- not met, and nothing that is not met leads there -/
def fre (R : Nat → Nat → Bool) (n : Nat) (M : Nat → Bool) (e : Nat) : Bool := !(M e) && alb (fun k => M k || !(R k e)) n
theorem alb_c {f g : Nat → Bool} : ∀ {n : Nat}, (∀ k, k < n → f k = g k) → alb f n = alb g n
  | 0, _ => rfl
  | n + 1, h => by
    show (alb f n && f n) = (alb g n && g n)
    rw [alb_c (n := n) (fun k hk => h k (by omega)), h n (by omega)]
theorem fre_c {R : Nat → Nat → Bool} {n : Nat} {M N : Nat → Bool} (h : ∀ k, k < n → M k = N k) {e : Nat} (he : e < n) : fre R n M e = fre R n N e := by
  unfold fre
  rw [h e he, alb_c (fun k hk => by rw [h k hk])]
def orM (R : Nat → Nat → Bool) (n : Nat) : Nat → Nat → Bool
  | 0 => fun _ => false
  | p + 1 => va_up (orM R n p) (ff (fre R n (orM R n p)) n 0) true
def orX (R : Nat → Nat → Bool) (n p : Nat) : Nat := ff (fre R n (orM R n p)) n 0
def orN (R : Nat → Nat → Bool) (n : Nat) : Nat := ff (fun p => decide (orX R n p = n)) n 0
theorem orM_s (R : Nat → Nat → Bool) (n p : Nat) : orM R n (p + 1) = va_up (orM R n p) (orX R n p) true := rfl
theorem orX_s {R : Nat → Nat → Bool} {n p : Nat} : (orX R n p = n ∧ ∀ k, k < n → fre R n (orM R n p) k = false) ∨ (orX R n p < n ∧ fre R n (orM R n p) (orX R n p) = true ∧ ∀ k, k < orX R n p → fre R n (orM R n p) k = false) := by
  rcases ff_s (z := orX R n p) (show ff (fre R n (orM R n p)) n 0 = orX R n p from rfl) with ⟨h1, h2⟩ | ⟨_, h2, h3, h4⟩
  · exact Or.inl ⟨by omega, fun k hk => h2 k (by omega) (by omega)⟩
  · exact Or.inr ⟨by omega, h3, fun k hk => h4 k (by omega) hk⟩
theorem orX_le (R : Nat → Nat → Bool) (n p : Nat) : orX R n p ≤ n := by
  rcases orX_s (R := R) (n := n) (p := p) with ⟨h, _⟩ | ⟨h, _⟩ <;> omega
theorem orM_i {R : Nat → Nat → Bool} {n : Nat} : ∀ {p k : Nat}, orM R n p k = true ↔ ∃ j, j < p ∧ orX R n j = k
  | 0, k => ⟨fun h => (by cases h), fun ⟨j, h, _⟩ => absurd h (Nat.not_lt_zero j)⟩
  | p + 1, k => by
    rw [orM_s]
    by_cases e : k = orX R n p
    · subst e
      rw [up_at]
      exact ⟨fun _ => ⟨p, by omega, rfl⟩, fun _ => rfl⟩
    · rw [up_ne _ _ e, orM_i]
      constructor
      · rintro ⟨j, h1, h2⟩
        exact ⟨j, by omega, h2⟩
      · rintro ⟨j, h1, h2⟩
        by_cases q : j = p
        · rw [q] at h2; exact absurd h2.symm e
        · exact ⟨j, by omega, h2⟩
theorem fre_0 {R : Nat → Nat → Bool} {n e : Nat} {M : Nat → Bool} (h : fre R n M e = true) : M e = false := by
  have := (bo_t h).1
  cases q : M e
  · rfl
  · rw [q] at this; cases this
theorem fre_1 {R : Nat → Nat → Bool} {n e k : Nat} {M : Nat → Bool} (h : fre R n M e = true) (hk : k < n) (hR : R k e = true) : M k = true := by
  have := alb_t.mp (bo_t h).2 k hk
  rw [hR] at this
  cases q : M k
  · rw [q] at this; cases this
  · rfl
theorem orM_n {R : Nat → Nat → Bool} {n : Nat} : ∀ {p : Nat}, (∀ j, j < p → orX R n j < n) → cnt (orM R n p) n = p
  | 0, _ => cnt_z (fun _ _ => rfl)
  | p + 1, h => by
    have ih := orM_n (R := R) (n := n) (p := p) (fun j hj => h j (by omega))
    have hp := h p (by omega)
    rcases orX_s (R := R) (n := n) (p := p) with ⟨q, _⟩ | ⟨_, q, _⟩
    · omega
    · rw [orM_s, cnt_up hp (fre_0 q) (up_at _ _ _) (fun j _ hj => (up_ne (orM R n p) true hj).symm), ih]
/-- the order has each one once -/
theorem orX_ne {R : Nat → Nat → Bool} {n p j : Nat} (hj : j < p) (hp : orX R n p < n) : orX R n j ≠ orX R n p := by
  intro h
  rcases orX_s (R := R) (n := n) (p := p) with ⟨q, _⟩ | ⟨_, q, _⟩
  · omega
  · have h1 := fre_0 q
    rw [orM_i.mpr ⟨j, hj, h⟩] at h1
    cases h1
theorem orX_n {R : Nat → Nat → Bool} {n : Nat} (h : ∀ j, j < n → orX R n j < n) : orX R n n = n := by
  rcases orX_s (R := R) (n := n) (p := n) with ⟨q, _⟩ | ⟨q1, q, _⟩
  · exact q
  · have h1 := cnt_all (f := orM R n n) (n := n) (by rw [orM_n h]; exact Nat.le_refl n) _ q1
    rw [fre_0 q] at h1
    cases h1
theorem orN_is {R : Nat → Nat → Bool} {n p : Nat} (hp : p ≤ n) (h : ∀ j, j < p → orX R n j < n) (h2 : orX R n p = n) : orN R n = p := by
  by_cases e : p = n
  · subst e
    exact (ff_at (f := fun q => decide (orX R p q = p)) (m := p) (i := 0) (fun k _ hk => decide_eq_false (by have := h k (by omega); omega))).trans (by omega)
  · exact ff_is (Nat.zero_le p) (by omega) (decide_eq_true h2) (fun k _ hk => decide_eq_false (by have := h k hk; omega))
theorem orN_n {R : Nat → Nat → Bool} {n : Nat} (h : orN R n = n) : ∀ j, j < n → orX R n j < n := by
  intro j hj
  rcases ff_s (show ff (fun p => decide (orX R n p = n)) n 0 = n from h) with ⟨_, h2⟩ | ⟨_, h2, _⟩
  · have h3 := of_decide_eq_false (h2 j (by omega) (by omega))
    have := orX_le R n j
    omega
  · omega
theorem orN_lt {R : Nat → Nat → Bool} {n : Nat} (h : orN R n < n) : (∀ j, j < orN R n → orX R n j < n) ∧ orX R n (orN R n) = n := by
  rcases ff_s (z := orN R n) (show ff (fun p => decide (orX R n p = n)) n 0 = orN R n from rfl) with ⟨h1, _⟩ | ⟨_, _, h3, h4⟩
  · omega
  · refine ⟨fun j hj => ?_, of_decide_eq_true h3⟩
    have h5 := of_decide_eq_false (h4 j (by omega) hj)
    have := orX_le R n j
    omega
theorem orN_le (R : Nat → Nat → Bool) (n : Nat) : orN R n ≤ n := by
  rcases ff_s (z := orN R n) (show ff (fun p => decide (orX R n p = n)) n 0 = orN R n from rfl) with ⟨h1, _⟩ | ⟨_, h1, _⟩ <;> omega
/-- each one that is there stands in a whole order -/
theorem orX_all {R : Nat → Nat → Bool} {n : Nat} (h : orN R n = n) {e : Nat} (he : e < n) : ∃ j, j < n ∧ orX R n j = e :=
  orM_i.mp (cnt_all (f := orM R n n) (n := n) (by rw [orM_n (orN_n h)]; exact Nat.le_refl n) e he)
theorem orX_pre {R : Nat → Nat → Bool} {n p k : Nat} (hp : orX R n p < n) (hk : k < n) (hR : R k (orX R n p) = true) : ∃ j, j < p ∧ orX R n j = k := by
  rcases orX_s (R := R) (n := n) (p := p) with ⟨q, _⟩ | ⟨_, q, _⟩
  · omega
  · exact orM_i.mp (fre_1 q hk hR)
/-- there is a walk of so many steps that ends there -/
def weB (R : Nat → Nat → Bool) (n : Nat) : Nat → Nat → Bool
  | 0, _ => true
  | m + 1, k => anb (fun j => weB R n m j && R j k) n
theorem weB_s {R : Nat → Nat → Bool} {n m k : Nat} : weB R n (m + 1) k = true ↔ ∃ j, j < n ∧ weB R n m j = true ∧ R j k = true := by
  show anb _ n = true ↔ _
  rw [anb_t]
  constructor
  · rintro ⟨j, h1, h2⟩
    exact ⟨j, h1, bo_t h2⟩
  · rintro ⟨j, h1, h2, h3⟩
    exact ⟨j, h1, by rw [h2, h3]; rfl⟩
theorem weB_1 {R : Nat → Nat → Bool} {n : Nat} : ∀ {m k : Nat}, weB R n (m + 1) k = true → weB R n m k = true
  | 0, _, _ => rfl
  | m + 1, k, h => by
    obtain ⟨j, h1, h2, h3⟩ := weB_s.mp h
    exact weB_s.mpr ⟨j, h1, weB_1 h2, h3⟩
theorem weB_d {R : Nat → Nat → Bool} {n k : Nat} : ∀ {q m : Nat}, weB R n (m + q) k = true → weB R n m k = true
  | 0, _, h => h
  | q + 1, m, h => weB_d (q := q) (weB_1 h)
theorem weB_w {R : Nat → Nat → Bool} {n i m : Nat} (h : weB R n m i = true) : ∀ {d k : Nat}, wkb R n i d k = true → weB R n (m + d) k = true
  | 0, k, hw => by rw [of_decide_eq_true hw]; exact h
  | d + 1, k, hw => by
    obtain ⟨j, h1, h2, h3⟩ := wkb_s.mp hw
    exact weB_s.mpr ⟨j, h1, weB_w h h2, h3⟩
def rng1 (R : Nat → Nat → Bool) (n : Nat) : Prop := ∃ k, k < n ∧ rch R n k k
theorem ring_we {R : Nat → Nat → Bool} {n k : Nat} (h : rch R n k k) : ∀ m, weB R n m k = true
  | 0 => rfl
  | m + 1 => by
    obtain ⟨d, hd⟩ := h
    have := weB_w (ring_we ⟨d, hd⟩ m) hd
    rw [show m + (d + 1) = m + 1 + d by omega] at this
    exact weB_d this
theorem we_cnt {R : Nat → Nat → Bool} {n : Nat} (h : ¬ rng1 R n) : ∀ {m e : Nat}, e < n → weB R n m e = true → m ≤ cnt (fun x => rchB R n x e) n
  | 0, _, _, _ => Nat.zero_le _
  | m + 1, e, he, hw => by
    obtain ⟨j, h1, h2, h3⟩ := weB_s.mp hw
    have ih := we_cnt h h1 h2
    have hj0 : rchB R n j j = false := (rchB_f h1).mpr (fun q => h ⟨j, h1, q⟩)
    have c1 : cnt (va_up (fun x => rchB R n x j) j true) n = cnt (fun x => rchB R n x j) n + 1 := cnt_up h1 hj0 (up_at _ _ _) (fun k _ hk => (up_ne (fun x => rchB R n x j) true hk).symm)
    have c2 : cnt (va_up (fun x => rchB R n x j) j true) n ≤ cnt (fun x => rchB R n x e) n := cnt_mono (fun x hx hq => by
      by_cases q : x = j
      · subst q; exact (rchB_t he).mpr (rch_1 hx h3)
      · rw [up_ne _ _ q] at hq
        exact (rchB_t he).mpr (rch_t ((rchB_t h1).mp hq) (rch_1 h1 h3)))
    omega
theorem we_ring {R : Nat → Nat → Bool} {n e : Nat} (he : e < n) (hw : weB R n n e = true) : rng1 R n := by
  refine Classical.byContradiction (fun h => ?_)
  have h1 := we_cnt h he hw
  have h2 : rchB R n e e = false := (rchB_f he).mpr (fun q => h ⟨e, he, q⟩)
  have h3 := cnt_lt (f := fun x => rchB R n x e) he h2
  omega
theorem or_we {R : Nat → Nat → Bool} {n : Nat} : ∀ {p m : Nat}, orX R n p < n → weB R n m (orX R n p) = true → m ≤ p := by
  intro p
  induction p using Nat.strongRecOn with
  | ind p ih =>
    intro m hp hw
    cases m with
    | zero => exact Nat.zero_le p
    | succ m =>
      obtain ⟨j, h1, h2, h3⟩ := weB_s.mp hw
      obtain ⟨c, hc, hq⟩ := orX_pre hp h1 h3
      have := @ih c hc m (by rw [hq]; exact h1) (by rw [hq]; exact h2)
      omega
theorem or_no {R : Nat → Nat → Bool} {n : Nat} (h : orN R n = n) {e : Nat} (he : e < n) : weB R n n e = false := by
  obtain ⟨j, hj, hq⟩ := orX_all h he
  cases hw : weB R n n e
  · rfl
  · have := or_we (p := j) (by rw [hq]; exact he) (by rw [hq]; exact hw)
    omega
theorem or_yes {R : Nat → Nat → Bool} {n : Nat} (h : orN R n < n) : ∃ e, e < n ∧ weB R n n e = true := by
  obtain ⟨h1, h2⟩ := orN_lt h
  have hf : ∀ k, k < n → fre R n (orM R n (orN R n)) k = false := by
    rcases orX_s (R := R) (n := n) (p := orN R n) with ⟨_, q⟩ | ⟨q, _⟩
    · exact q
    · omega
  have hun : ∃ e, e < n ∧ orM R n (orN R n) e = false := by
    refine Classical.byContradiction (fun hq => ?_)
    have h3 : ∀ k, k < n → (fun _ => true) k = orM R n (orN R n) k := fun k hk => by
      cases q : orM R n (orN R n) k
      · exact absurd ⟨k, hk, q⟩ hq
      · rfl
    have h4 := cnt_c h3
    rw [orM_n h1] at h4
    have h5 : ∀ m, cnt (fun _ => true) m = m := fun m => by
      induction m with
      | zero => rfl
      | succ m ih => rw [cnt_0, if_pos rfl, ih]
    rw [h5] at h4
    omega
  have key : ∀ m e, e < n → orM R n (orN R n) e = false → weB R n m e = true := by
    intro m
    induction m with
    | zero => exact fun _ _ _ => rfl
    | succ m ih =>
      intro e he hu
      have h3 := hf e he
      unfold fre at h3
      rw [hu, Bool.not_false, Bool.true_and] at h3
      have : ∃ k, k < n ∧ (orM R n (orN R n) k || !(R k e)) = false := by
        refine Classical.byContradiction (fun hq => ?_)
        rw [alb_t.mpr (fun k hk => by
          cases q : (orM R n (orN R n) k || !(R k e))
          · exact absurd ⟨k, hk, q⟩ hq
          · rfl)] at h3
        cases h3
      obtain ⟨k, hk, hq⟩ := this
      have hq1 : orM R n (orN R n) k = false ∧ R k e = true := by
        revert hq
        cases orM R n (orN R n) k <;> cases R k e <;> decide
      exact weB_s.mpr ⟨k, hk, ih k hk hq1.1, hq1.2⟩
  obtain ⟨e, he, hu⟩ := hun
  exact ⟨e, he, key n e he hu⟩
theorem or_ring {R : Nat → Nat → Bool} {n : Nat} : orN R n = n ↔ ¬ rng1 R n := by
  constructor
  · rintro h ⟨k, hk, hr⟩
    have := or_no h hk
    rw [ring_we hr n] at this
    cases this
  · intro h
    have := orN_le R n
    by_cases e : orN R n = n
    · exact e
    · obtain ⟨k, hk, hw⟩ := or_yes (show orN R n < n by omega)
      exact absurd (we_ring hk hw) h
theorem ring_b {R : Nat → Nat → Bool} {n : Nat} : anb (fun k => rchB R n k k) n = true ↔ rng1 R n := by
  rw [anb_t]
  constructor
  · rintro ⟨k, hk, h⟩
    exact ⟨k, hk, (rchB_t hk).mp h⟩
  · rintro ⟨k, hk, h⟩
    exact ⟨k, hk, (rchB_t hk).mpr h⟩
/-- the longest walk has b steps -/
def lwS (R : Nat → Nat → Bool) (n b : Nat) : Prop := (∃ e, e < n ∧ weB R n b e = true) ∧ ∀ m e, e < n → weB R n m e = true → m ≤ b
theorem lwS_u {R : Nat → Nat → Bool} {n a b : Nat} (h1 : lwS R n a) (h2 : lwS R n b) : a = b := by
  obtain ⟨⟨e, he, hw⟩, h3⟩ := h1
  obtain ⟨⟨f, hf, hv⟩, h4⟩ := h2
  exact Nat.le_antisymm (h4 a e he hw) (h3 b f hf hv)
end ZZOR
