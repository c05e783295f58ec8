section ZZGR
/-! walks in a relation R of the elements below n -/
theorem cnt_0 (f : Nat → Bool) (n : Nat) : cnt f (n + 1) = if f n = true then cnt f n + 1 else cnt f n := rfl
theorem cnt_c {f g : Nat → Bool} : ∀ {n : Nat}, (∀ k, k < n → f k = g k) → cnt f n = cnt g n
  | 0, _ => rfl
  | n + 1, h => by
    rw [cnt_0, cnt_0, h n (by omega), cnt_c (n := n) (fun k hk => h k (by omega))]
theorem cnt_up {f g : Nat → Bool} {k : Nat} : ∀ {n : Nat}, k < n → f k = false → g k = true → (∀ j, j < n → j ≠ k → f j = g j) → cnt g n = cnt f n + 1
  | 0, h, _, _, _ => absurd h (Nat.not_lt_zero k)
  | n + 1, h, h1, h2, h3 => by
    rw [cnt_0, cnt_0]
    by_cases e : k = n
    · subst e
      rw [h1, h2, if_pos rfl, if_neg (by decide), cnt_c (fun j hj => h3 j (by omega) (by omega))]
    · rw [cnt_up (n := n) (by omega) h1 h2 (fun j hj => h3 j (by omega)), h3 n (by omega) (by omega)]
      split <;> rfl
theorem cnt_lt {f : Nat → Bool} {k n : Nat} (h : k < n) (h1 : f k = false) : cnt f n < n := by
  have h2 := cnt_up (g := va_up f k true) h h1 (by simp [va_up]) (fun j _ hj => by simp [va_up, hj])
  have h3 := cnt_le (va_up f k true) n
  omega
theorem cnt_mono {f g : Nat → Bool} : ∀ {n : Nat}, (∀ k, k < n → f k = true → g k = true) → cnt f n ≤ cnt g n
  | 0, _ => Nat.le_refl _
  | n + 1, h => by
    have := cnt_mono (n := n) (fun k hk => h k (by omega))
    rw [cnt_0, cnt_0]
    by_cases e : f n = true
    · rw [if_pos e, if_pos (h n (by omega) e)]; omega
    · rw [if_neg e]; split <;> omega
theorem anb_c {f g : Nat → Bool} : ∀ {n : Nat}, (∀ k, k < n → f k = g k) → anb f n = anb g n
  | 0, _ => rfl
  | n + 1, h => by
    show (anb f n || f n) = (anb g n || g n)
    rw [anb_c (n := n) (fun k hk => h k (by omega)), h n (by omega)]
theorem bo_t {a b : Bool} (h : (a && b) = true) : a = true ∧ b = true := by revert h; cases a <;> cases b <;> decide
/-- walks of just so many steps from i -/
def wkb (R : Nat → Nat → Bool) (n i : Nat) : Nat → Nat → Bool
  | 0, k => decide (k = i)
  | m + 1, k => anb (fun j => wkb R n i m j && R j k) n
theorem wkb_s {R : Nat → Nat → Bool} {n i m k : Nat} : wkb R n i (m + 1) k = true ↔ ∃ j, j < n ∧ wkb R n i m j = true ∧ R j k = true := by
  show anb _ n = true ↔ _
  rw [anb_t]
  constructor
  · rintro ⟨j, h1, h2⟩
    exact ⟨j, h1, bo_t h2⟩
  · rintro ⟨j, h1, h2, h3⟩
    exact ⟨j, h1, by rw [h2, h3]; rfl⟩
theorem wkb_1 {R : Nat → Nat → Bool} {n i k : Nat} (hi : i < n) : wkb R n i 1 k = R i k := by
  rw [Bool.eq_iff_iff, wkb_s]
  constructor
  · rintro ⟨j, _, h1, h2⟩
    rw [← of_decide_eq_true h1]; exact h2
  · intro h
    exact ⟨i, hi, decide_eq_true rfl, h⟩
theorem wkb_add {R : Nat → Nat → Bool} {n i j : Nat} {a : Nat} (h1 : wkb R n i a j = true) : ∀ {b k : Nat}, wkb R n j b k = true → wkb R n i (a + b) k = true
  | 0, k, h => by
    rw [of_decide_eq_true h]; exact h1
  | b + 1, k, h => by
    obtain ⟨l, h2, h3, h4⟩ := wkb_s.mp h
    exact wkb_s.mpr ⟨l, h2, wkb_add h1 h3, h4⟩
/-- a walk to be left at its first step -/
theorem wkb_l {R : Nat → Nat → Bool} {n i : Nat} : ∀ {m k : Nat}, wkb R n i (m + 1) k = true → (m = 0 ∧ R i k = true) ∨ ∃ j, j < n ∧ R i j = true ∧ wkb R n j m k = true
  | 0, k, h => by
    obtain ⟨j, _, h2, h3⟩ := wkb_s.mp h
    rw [of_decide_eq_true h2] at h3
    exact Or.inl ⟨rfl, h3⟩
  | m + 1, k, h => by
    obtain ⟨l, h2, h3, h4⟩ := wkb_s.mp h
    rcases wkb_l h3 with ⟨rfl, h5⟩ | ⟨j, h5, h6, h7⟩
    · exact Or.inr ⟨l, h2, h5, wkb_s.mpr ⟨l, h2, decide_eq_true rfl, h4⟩⟩
    · exact Or.inr ⟨j, h5, h6, wkb_s.mpr ⟨l, h2, h7, h4⟩⟩
/-- there is a walk, of one step at least -/
def rch (R : Nat → Nat → Bool) (n i k : Nat) : Prop := ∃ m, wkb R n i (m + 1) k = true
def dst (R : Nat → Nat → Bool) (n i k d : Nat) : Prop := 1 ≤ d ∧ wkb R n i d k = true ∧ ∀ m, 1 ≤ m → wkb R n i m k = true → d ≤ m
theorem dst_u {R : Nat → Nat → Bool} {n i k d e : Nat} (h1 : dst R n i k d) (h2 : dst R n i k e) : d = e := Nat.le_antisymm (h1.2.2 e h2.1 h2.2.1) (h2.2.2 d h1.1 h1.2.1)
theorem rch_t {R : Nat → Nat → Bool} {n i j k : Nat} (h1 : rch R n i j) (h2 : rch R n j k) : rch R n i k := by
  obtain ⟨a, h1⟩ := h1
  obtain ⟨b, h2⟩ := h2
  exact ⟨a + 1 + b, wkb_add h1 h2⟩
theorem rch_1 {R : Nat → Nat → Bool} {n i k : Nat} (hi : i < n) (h : R i k = true) : rch R n i k := ⟨0, by rw [wkb_1 hi]; exact h⟩
/-! going by breadth -/
def bfI (R : Nat → Nat → Bool) (n i0 : Nat) (D Qn : Nat → Nat) (e : Nat) : Prop :=
  e = cnt (fun k => decide (D k ≠ 0)) n ∧ (∀ j, j < e → Qn j < n ∧ D (Qn j) ≠ 0 ∧ D (Qn j) ≤ j + 1) ∧
  (∀ k, k < n → D k ≠ 0 → (∃ j, j < e ∧ Qn j = k) ∧ wkb R n i0 (D k) k = true) ∧ ∀ a b, a ≤ b → b < e → D (Qn a) ≤ D (Qn b)
def bfO (R : Nat → Nat → Bool) (n i0 : Nat) (D Qn : Nat → Nat) (e a : Nat) : Prop :=
  bfI R n i0 D Qn e ∧ (∀ k, k < n → R i0 k = true → D k = 1) ∧ (∀ b, b < e → a < e → D (Qn b) ≤ D (Qn a) + 1) ∧
  ∀ c, c < a → c < e → ∀ k, k < n → R (Qn c) k = true → D k ≠ 0 ∧ D k ≤ D (Qn c) + 1
def bfN (R : Nat → Nat → Bool) (n i0 : Nat) (D Qn : Nat → Nat) (e a s x : Nat) : Prop :=
  bfI R n i0 D Qn e ∧ (∀ k, k < n → R i0 k = true → D k = 1) ∧ (∀ b, b < e → D (Qn b) ≤ D s + 1) ∧
  (∀ c, c < a → c < e → ∀ k, k < n → R (Qn c) k = true → D k ≠ 0 ∧ D k ≤ D (Qn c) + 1) ∧
  (a < e ∧ Qn a = s ∧ s < n ∧ D s ≠ 0) ∧ ∀ k, k < x → R s k = true → D k ≠ 0 ∧ D k ≤ D s + 1
theorem bfN_0 {R : Nat → Nat → Bool} {n i0 : Nat} {D Qn : Nat → Nat} {e a : Nat} (h : bfO R n i0 D Qn e a) (ha : a < e) : bfN R n i0 D Qn e a (Qn a) 0 :=
  ⟨h.1, h.2.1, fun b hb => h.2.2.1 b hb ha, h.2.2.2, ⟨ha, rfl, (h.1.2.1 a ha).1, (h.1.2.1 a ha).2.1⟩, fun k hk => absurd hk (Nat.not_lt_zero k)⟩
theorem bfN_n {R : Nat → Nat → Bool} {n i0 : Nat} {D Qn : Nat → Nat} {e a s : Nat} (h : bfN R n i0 D Qn e a s n) : bfO R n i0 D Qn e (a + 1) := by
  obtain ⟨h1, h2, h3, h4, ⟨h5, h6, h7, h8⟩, h9⟩ := h
  refine ⟨h1, h2, fun b hb ha => ?_, fun c hc hce k hk hR => ?_⟩
  · have q1 := h3 b hb
    have q2 := h1.2.2.2 a (a + 1) (by omega) ha
    rw [h6] at q2
    omega
  · by_cases e1 : c = a
    · rw [e1, h6] at hR ⊢
      exact h9 k hk hR
    · exact h4 c (by omega) hce k hk hR
theorem bfN_o {R : Nat → Nat → Bool} {n i0 : Nat} {D Qn : Nat → Nat} {e a s x : Nat} (h : bfN R n i0 D Qn e a s x) (hx : x < n) (ho : D x ≠ 0 ∨ R s x = false) : bfN R n i0 D Qn e a s (x + 1) := by
  obtain ⟨h1, h2, h3, h4, h5, h9⟩ := h
  refine ⟨h1, h2, h3, h4, h5, fun k hk hR => ?_⟩
  by_cases e1 : k = x
  · subst e1
    rcases ho with ho | ho
    · obtain ⟨j, hj, hq⟩ := (h1.2.2.1 k hx ho).1
      have := h3 j hj
      rw [hq] at this
      exact ⟨ho, this⟩
    · rw [ho] at hR; cases hR
  · exact h9 k (by omega) hR
theorem bfN_w {R : Nat → Nat → Bool} {n i0 : Nat} {D Qn : Nat → Nat} {e a s x : Nat} (h : bfN R n i0 D Qn e a s x) (hx : x < n) (h0 : D x = 0) (hR : R s x = true) :
    bfN R n i0 (va_up D x (D s + 1)) (va_up Qn e x) (e + 1) a s (x + 1) := by
  obtain ⟨⟨g1, g2, g3, g4⟩, h2, h3, h4, ⟨h5, h6, h7, h8⟩, h9⟩ := h
  have hne : ∀ j, j < e → Qn j ≠ x := fun j hj q => (g2 j hj).2.1 (by rw [q]; exact h0)
  have hs : s ≠ x := fun q => h8 (by rw [q]; exact h0)
  have uQ : ∀ j, j < e → va_up Qn e x j = Qn j := fun j hj => by simp [va_up]; omega
  have uE : va_up Qn e x e = x := by simp [va_up]
  have uD : ∀ k, k ≠ x → va_up D x (D s + 1) k = D k := fun k hk => by simp [va_up, hk]
  have uX : va_up D x (D s + 1) x = D s + 1 := by simp [va_up]
  have uDQ : ∀ j, j < e → va_up D x (D s + 1) (va_up Qn e x j) = D (Qn j) := fun j hj => by rw [uQ j hj, uD _ (hne j hj)]
  have uDE : va_up D x (D s + 1) (va_up Qn e x e) = D s + 1 := by rw [uE, uX]
  refine ⟨⟨?_, fun j hj => ?_, fun k hk hD => ?_, fun b c hbc hc => ?_⟩, fun k hk hRk => ?_, fun b hb => ?_, fun c hc hce k hk hRk => ?_, ⟨by omega, by rw [uQ a h5]; exact h6, h7, by rw [uD s hs]; exact h8⟩, fun k hk hRk => ?_⟩
  · rw [g1]
    refine (cnt_up hx (f := fun k => decide (D k ≠ 0)) (g := fun k => decide (va_up D x (D s + 1) k ≠ 0)) (decide_eq_false (by rw [h0]; simp)) (decide_eq_true (by rw [uX]; omega)) (fun j _ hj => ?_)).symm
    show decide _ = decide _
    rw [uD j hj]
  · by_cases e1 : j = e
    · subst e1
      rw [uDE, uE]
      have q := (g2 a h5).2.2
      rw [h6] at q
      exact ⟨hx, by omega, by omega⟩
    · rw [uDQ j (by omega), uQ j (by omega)]
      exact g2 j (by omega)
  · by_cases e1 : k = x
    · subst e1
      refine ⟨⟨e, by omega, uE⟩, ?_⟩
      rw [uX]
      exact wkb_s.mpr ⟨s, h7, (g3 s h7 h8).2, hR⟩
    · rw [uD k e1] at hD ⊢
      obtain ⟨⟨j, hj, hq⟩, hw⟩ := g3 k hk hD
      exact ⟨⟨j, by omega, by rw [uQ j hj]; exact hq⟩, hw⟩
  · by_cases e1 : c = e
    · subst e1
      rw [uDE]
      by_cases e2 : b = c
      · subst e2; rw [uDE]; exact Nat.le_refl _
      · rw [uDQ b (by omega)]
        exact h3 b (by omega)
    · rw [uDQ b (by omega), uDQ c (by omega)]
      exact g4 b c hbc (by omega)
  · by_cases e1 : k = x
    · subst e1
      rw [h2 k hk hRk] at h0
      exact absurd h0 (by decide)
    · rw [uD k e1]
      exact h2 k hk hRk
  · rw [uD s hs]
    by_cases e1 : b = e
    · subst e1; rw [uDE]; exact Nat.le_refl _
    · rw [uDQ b (by omega)]
      exact h3 b (by omega)
  · have hce2 : c < e := by omega
    rw [uQ c hce2] at hRk
    rw [uDQ c hce2]
    obtain ⟨q1, q2⟩ := h4 c hc hce2 k hk hRk
    have e1 : k ≠ x := fun q => q1 (by rw [q]; exact h0)
    rw [uD k e1]
    exact ⟨q1, q2⟩
  · rw [uD s hs]
    by_cases e1 : k = x
    · subst e1; rw [uX]; exact ⟨by omega, Nat.le_refl _⟩
    · rw [uD k e1]
      exact h9 k (by omega) hRk
theorem bfO_e {R : Nat → Nat → Bool} {n i0 : Nat} (hi : i0 < n) {D Qn : Nat → Nat} {e a : Nat} (h : bfO R n i0 D Qn e a) (ha : e ≤ a) : ∀ k, k < n → (D k = 0 ∧ ¬ rch R n i0 k) ∨ (D k ≠ 0 ∧ D k ≤ n ∧ dst R n i0 k (D k)) := by
  obtain ⟨⟨g1, g2, g3, g4⟩, h2, _, h4⟩ := h
  have key : ∀ m k, k < n → wkb R n i0 (m + 1) k = true → D k ≠ 0 ∧ D k ≤ m + 1 := by
    intro m
    induction m with
    | zero =>
      intro k hk h
      rw [wkb_1 hi] at h
      rw [h2 k hk h]
      exact ⟨by decide, Nat.le_refl _⟩
    | succ m ih =>
      intro k hk h
      obtain ⟨j, hj, hw, hR⟩ := wkb_s.mp h
      obtain ⟨q1, q2⟩ := ih j hj hw
      obtain ⟨⟨c, hc, hq⟩, _⟩ := g3 j hj q1
      have q3 := h4 c (by omega) hc k hk (by rw [hq]; exact hR)
      rw [hq] at q3
      exact ⟨q3.1, by omega⟩
  intro k hk
  by_cases h0 : D k = 0
  · exact Or.inl ⟨h0, fun ⟨m, hm⟩ => (key m k hk hm).1 h0⟩
  · obtain ⟨⟨j, hj, hq⟩, hw⟩ := g3 k hk h0
    have q1 := (g2 j hj).2.2
    rw [hq] at q1
    have q2 := cnt_le (fun k => decide (D k ≠ 0)) n
    rw [← g1] at q2
    refine Or.inr ⟨h0, by omega, by omega, hw, fun m hm hwm => ?_⟩
    have := (key (m - 1) k hk (by rw [Nat.sub_add_cancel hm]; exact hwm)).2
    omega
/-- the queue of those that one step leads to -/
def bfP (R : Nat → Nat → Bool) (n i0 : Nat) (D Qn : Nat → Nat) (e x : Nat) : Prop :=
  e = cnt (fun k => decide (D k ≠ 0)) n ∧ (∀ j, j < e → Qn j < n ∧ D (Qn j) = 1) ∧ (∀ k, k < n → D k ≠ 0 → (∃ j, j < e ∧ Qn j = k) ∧ D k = 1 ∧ R i0 k = true) ∧ (∀ k, k < x → R i0 k = true → D k = 1) ∧ ∀ k, x ≤ k → D k = 0
theorem cnt_z {f : Nat → Bool} : ∀ {n : Nat}, (∀ k, k < n → f k = false) → cnt f n = 0
  | 0, _ => rfl
  | n + 1, h => by
    rw [cnt_0, h n (by omega), if_neg (by decide), cnt_z (n := n) (fun k hk => h k (by omega))]
theorem bfP_0 (R : Nat → Nat → Bool) (n i0 : Nat) (Qn : Nat → Nat) : bfP R n i0 (fun _ => 0) Qn 0 0 :=
  ⟨(cnt_z (fun k _ => rfl)).symm, fun j hj => absurd hj (Nat.not_lt_zero j), fun k _ h => absurd rfl h, fun k hk => absurd hk (Nat.not_lt_zero k), fun _ _ => rfl⟩
theorem bfP_o {R : Nat → Nat → Bool} {n i0 : Nat} {D Qn : Nat → Nat} {e x : Nat} (h : bfP R n i0 D Qn e x) (hR : R i0 x = false) : bfP R n i0 D Qn e (x + 1) := by
  obtain ⟨h1, h2, h3, h4, h5⟩ := h
  refine ⟨h1, h2, h3, fun k hk hRk => ?_, fun k hk => h5 k (by omega)⟩
  by_cases e1 : k = x
  · subst e1; rw [hR] at hRk; cases hRk
  · exact h4 k (by omega) hRk
theorem bfP_w {R : Nat → Nat → Bool} {n i0 : Nat} {D Qn : Nat → Nat} {e x : Nat} (h : bfP R n i0 D Qn e x) (hx : x < n) (hR : R i0 x = true) : bfP R n i0 (va_up D x 1) (va_up Qn e x) (e + 1) (x + 1) := by
  obtain ⟨h1, h2, h3, h4, h5⟩ := h
  have h0 := h5 x (Nat.le_refl x)
  have hne : ∀ j, j < e → Qn j ≠ x := fun j hj q => by have := (h2 j hj).2; rw [q, h0] at this; exact absurd this (by decide)
  have uQ : ∀ j, j < e → va_up Qn e x j = Qn j := fun j hj => by simp [va_up]; omega
  have uE : va_up Qn e x e = x := by simp [va_up]
  have uD : ∀ k, k ≠ x → va_up D x 1 k = D k := fun k hk => by simp [va_up, hk]
  have uX : va_up D x 1 x = 1 := by simp [va_up]
  refine ⟨?_, fun j hj => ?_, fun k hk hD => ?_, fun k hk hRk => ?_, fun k hk => ?_⟩
  · rw [h1]
    refine (cnt_up hx (f := fun k => decide (D k ≠ 0)) (g := fun k => decide (va_up D x 1 k ≠ 0)) (decide_eq_false (by rw [h0]; simp)) (decide_eq_true (by rw [uX]; decide)) (fun j _ hj => ?_)).symm
    show decide _ = decide _
    rw [uD j hj]
  · by_cases e1 : j = e
    · subst e1; rw [uE, uX]; exact ⟨hx, rfl⟩
    · rw [uQ j (by omega), uD _ (hne j (by omega))]; exact h2 j (by omega)
  · by_cases e1 : k = x
    · subst e1; exact ⟨⟨e, by omega, uE⟩, uX, hR⟩
    · rw [uD k e1] at hD ⊢
      obtain ⟨⟨j, hj, hq⟩, q⟩ := h3 k hk hD
      exact ⟨⟨j, by omega, by rw [uQ j hj]; exact hq⟩, q⟩
  · by_cases e1 : k = x
    · subst e1; exact uX
    · rw [uD k e1]; exact h4 k (by omega) hRk
  · rw [uD k (by omega)]; exact h5 k (by omega)
theorem bfP_n {R : Nat → Nat → Bool} {n i0 : Nat} (hi : i0 < n) {D Qn : Nat → Nat} {e : Nat} (h : bfP R n i0 D Qn e n) : bfO R n i0 D Qn e 0 := by
  obtain ⟨h1, h2, h3, h4, h5⟩ := h
  refine ⟨⟨h1, fun j hj => ⟨(h2 j hj).1, by rw [(h2 j hj).2]; decide, by rw [(h2 j hj).2]; omega⟩, fun k hk hD => ⟨(h3 k hk hD).1, ?_⟩, fun a b _ hb => by rw [(h2 a (by omega)).2, (h2 b hb).2]; exact Nat.le_refl _⟩, fun k hk hR => h4 k hk hR, fun b hb ha => by rw [(h2 b hb).2]; omega, fun c hc => absurd hc (Nat.not_lt_zero c)⟩
  rw [(h3 k hk hD).2.1, wkb_1 hi]
  exact (h3 k hk hD).2.2
theorem bfI_lt {D : Nat → Nat} {n e x : Nat} (h : e = cnt (fun k => decide (D k ≠ 0)) n) (hx : x < n) (h0 : D x = 0) : e < n := by
  rw [h]
  exact cnt_lt hx (decide_eq_false (by rw [h0]; simp))
theorem bfI_le {D : Nat → Nat} {n e : Nat} (h : e = cnt (fun k => decide (D k ≠ 0)) n) : e ≤ n := by rw [h]; exact cnt_le _ _
/-- how far a number stands for -/
def fr (d : Nat) : Int32 := if d = 0 then -1 else nI d
theorem fr_0 {d : Nat} (h : d < 1000) : fr d = -1 ↔ d = 0 := by
  unfold fr
  constructor
  · intro q
    by_cases e : d = 0
    · exact e
    · rw [if_neg e] at q
      exact absurd (q ▸ nI_pos (n := d) (by omega)) (by decide)
  · intro q; rw [if_pos q]
end ZZGR
