section ZYM
/-! relations as sets of pairs: what the law's trials rest on -/
theorem bo_o {a b : Bool} (h : (a || b) = true) : a = true ∨ b = true := by revert h; cases a <;> cases b <;> decide
/-- how many pairs -/
def pn (n : Nat) (X : Nat → Nat → Bool) : Nat := sm (fun j => cnt (X j) n) n
theorem pn_c {n : Nat} {X Y : Nat → Nat → Bool} (h : ∀ i k, i < n → k < n → X i k = Y i k) : pn n X = pn n Y := sm_c (fun j hj => cnt_c (fun k hk => h j k hj hk))
theorem pn_le (n : Nat) (X : Nat → Nat → Bool) : pn n X ≤ n * n := sm_le (fun k => cnt_le (X k) n) n
theorem pn_6400 {n : Nat} (hn : n ≤ 80) (X : Nat → Nat → Bool) : pn n X ≤ 6400 := Nat.le_trans (pn_le n X) (Nat.mul_le_mul hn hn)
theorem cov_sub {R : Nat → Nat → Bool} {n i k : Nat} (hi : i < n) (hk : k < n) (h : cvB (rchB R n) n i k = true) : R i k = true := by
  obtain ⟨h1, h2⟩ := bo_t h
  obtain ⟨m, hm⟩ := (rchB_t hk).mp h1
  rcases wkb_l hm with ⟨_, q⟩ | ⟨j, hj, q1, q2⟩
  · exact q
  · cases m with
    | zero =>
      have e : k = j := of_decide_eq_true q2
      rw [e]
      exact q1
    | succ m =>
      have h3 := alb_t.mp h2 j hj
      rw [(rchB_t hj).mpr (rch_1 hi q1), (rchB_t hk).mpr ⟨m, q2⟩] at h3
      exact absurd h3 (by decide)
theorem cl_tr {S : Nat → Nat → Bool} {n : Nat} (hT : ∀ a b c, a < n → b < n → c < n → S a b = true → S b c = true → S a c = true) {i k : Nat} (hi : i < n) (hk : k < n) : rchB S n i k = S i k := by
  have hw : ∀ m k, k < n → wkb S n i (m + 1) k = true → S i k = true := by
    intro m
    induction m with
    | zero =>
      intro k _ h
      exact (wkb_1 hi).symm.trans h
    | succ m ih =>
      intro k hk h
      obtain ⟨j, hj, h1, h2⟩ := wkb_s.mp h
      exact hT i j k hi hj hk (ih j hj h1) h2
  cases e : S i k with
  | true => exact (rchB_t hk).mpr (rch_1 hi e)
  | false =>
    cases e2 : rchB S n i k with
    | false => rfl
    | true =>
      obtain ⟨m, hm⟩ := (rchB_t hk).mp e2
      rw [hw m k hk hm] at e
      cases e
theorem cov_cl {R : Nat → Nat → Bool} {n : Nat} (hg : ¬ rng1 R n) {i k : Nat} (hi : i < n) (hk : k < n) : rchB (cvB (rchB R n) n) n i k = rchB R n i k := by
  have hT : ∀ a b c, a < n → b < n → c < n → rchB R n a b = true → rchB R n b c = true → rchB R n a c = true := fun a b c _ hb hc h1 h2 => rchB_tr hb hc h1 h2
  have hI : ∀ a, a < n → rchB R n a a = false := fun a ha => (rchB_f ha).mpr (fun q => hg ⟨a, ha, q⟩)
  cases e : rchB R n i k with
  | true => exact (rchB_t hk).mpr (cov_2 hT hI _ i k hi hk (Nat.le_refl _) e)
  | false =>
    cases e2 : rchB (cvB (rchB R n) n) n i k with
    | false => rfl
    | true =>
      obtain ⟨m, hm⟩ := (rchB_t hk).mp e2
      rw [cov_1 hT hi m k hk hm] at e
      cases e
/-- a closure, with each element's own pair or without -/
def clO (R : Nat → Nat → Bool) (n : Nat) (b : Bool) : Nat → Nat → Bool := fun i k => rchB R n i k || (b && decide (i = k))
theorem clO_tr {R : Nat → Nat → Bool} {n : Nat} {b : Bool} : ∀ x y z, x < n → y < n → z < n → clO R n b x y = true → clO R n b y z = true → clO R n b x z = true := by
  intro x y z hx hy hz h1 h2
  rcases bo_o h1 with p1 | p1
  · rcases bo_o h2 with q1 | q1
    · show (rchB R n x z || _) = true
      rw [rchB_tr hy hz p1 q1, Bool.true_or]
    · have e : y = z := of_decide_eq_true (bo_t q1).2
      subst e
      exact h1
  · have e : x = y := of_decide_eq_true (bo_t p1).2
    subst e
    exact h2
theorem clO_cl {R : Nat → Nat → Bool} {n : Nat} {b : Bool} {i k : Nat} (hi : i < n) (hk : k < n) : rchB (clO R n b) n i k = clO R n b i k := cl_tr clO_tr hi hk
theorem clO_sub {R : Nat → Nat → Bool} {n : Nat} {b : Bool} {i k : Nat} (hi : i < n) (hk : k < n) (h : R i k = true) : clO R n b i k = true := by
  show (rchB R n i k || _) = true
  rw [(rchB_t hk).mpr (rch_1 hi h), Bool.true_or]
theorem clO_is4 {R : Nat → Nat → Bool} {n : Nat} {b : Bool} : isV n (clO R n b) 4 = true := isV_t.mpr (fun a k ha hk => by
  show (clO R n b a k || !(anb (fun j => clO R n b a j && clO R n b j k) n)) = true
  cases e : anb (fun j => clO R n b a j && clO R n b j k) n with
  | false => rw [Bool.not_false, Bool.or_true]
  | true =>
    obtain ⟨j, hj, h⟩ := anb_t.mp e
    rw [clO_tr a j k ha hj hk (bo_t h).1 (bo_t h).2, Bool.true_or])
theorem clO_is0 {R : Nat → Nat → Bool} {n : Nat} : isV n (clO R n true) 0 = true := isV_t.mpr (fun a k ha hk => by
  show (!(decide (a = k)) || clO R n true a k) = true
  by_cases e : a = k
  · show (_ || (rchB R n a k || (true && decide (a = k)))) = true
    rw [decide_eq_true e, Bool.and_self, Bool.or_true, Bool.or_true]
  · rw [decide_eq_false e, Bool.not_false, Bool.true_or])
theorem isV_c {n w : Nat} {X Y : Nat → Nat → Bool} (h : ∀ i k, i < n → k < n → X i k = Y i k) : isV n X w = isV n Y w := alb_c (fun a ha => alb_c (fun k hk => by
  rw [h a k ha hk, h k a hk ha, anb_c (fun j hj => by rw [h a j ha hj, h j k hj hk])]))
/-! counts -/
theorem cnt_eq {f g : Nat → Bool} {n : Nat} (h : ∀ k, k < n → f k = true → g k = true) (e : cnt f n = cnt g n) : ∀ k, k < n → f k = g k := fun k hk => by
  cases a : f k with
  | true => rw [h k hk a]
  | false =>
    cases b : g k with
    | false => rfl
    | true =>
      have := cnt_str hk a b h
      omega
theorem sm_mono {g h : Nat → Nat} : ∀ {n : Nat}, (∀ k, k < n → g k ≤ h k) → sm g n ≤ sm h n
  | 0, _ => Nat.le_refl _
  | n + 1, H => by
    have h1 := sm_mono (n := n) (fun k hk => H k (by omega))
    have h2 := H n (by omega)
    rw [sm_s, sm_s]
    omega
theorem sm_eq {g h : Nat → Nat} : ∀ {n : Nat}, (∀ k, k < n → g k ≤ h k) → sm g n = sm h n → ∀ k, k < n → g k = h k
  | 0, _, _, k, hk => absurd hk (Nat.not_lt_zero k)
  | n + 1, H, e, k, hk => by
    have h1 := sm_mono (n := n) (fun k hk => H k (by omega))
    have h2 := H n (by omega)
    rw [sm_s, sm_s] at e
    by_cases q : k = n
    · subst q
      omega
    · exact sm_eq (n := n) (fun k hk => H k (by omega)) (by omega) k (by omega)
theorem pn_mono {n : Nat} {X Y : Nat → Nat → Bool} (h : ∀ i k, i < n → k < n → X i k = true → Y i k = true) : pn n X ≤ pn n Y := sm_mono (fun j hj => cnt_mono (fun k hk => h j k hj hk))
theorem pn_eq {n : Nat} {X Y : Nat → Nat → Bool} (h : ∀ i k, i < n → k < n → X i k = true → Y i k = true) (e : pn n X = pn n Y) : ∀ i k, i < n → k < n → X i k = Y i k := fun i k hi hk =>
  cnt_eq (fun k hk => h i k hi hk) (sm_eq (fun j hj => cnt_mono (fun k hk => h j k hj hk)) e i hi) k hk
theorem sm_add (g h : Nat → Nat) : ∀ n, sm (fun k => g k + h k) n = sm g n + sm h n
  | 0 => rfl
  | n + 1 => by
    rw [sm_s, sm_s, sm_s, sm_add g h n]
    omega
theorem sm_k (c : Nat) : ∀ n, sm (fun _ => c) n = n * c
  | 0 => (Nat.zero_mul c).symm
  | n + 1 => by rw [sm_s, sm_k c n, Nat.succ_mul]
theorem sm_sw (g : Nat → Nat → Nat) (a : Nat) : ∀ b, sm (fun i => sm (g i) a) b = sm (fun k => sm (fun i => g i k) b) a
  | 0 => by
    show 0 = sm (fun _ => 0) a
    rw [sm_k, Nat.mul_zero]
  | b + 1 => by
    rw [sm_s, sm_sw g a b, ← sm_add]
    exact sm_c (fun k _ => (sm_s (fun i => g i k) b).symm)
theorem cnt_sm (f : Nat → Bool) : ∀ n, cnt f n = sm (fun k => if f k = true then 1 else 0) n
  | 0 => rfl
  | n + 1 => by
    rw [sm_s, ← cnt_sm f n, cnt_0]
    by_cases e : f n = true
    · rw [if_pos e, if_pos e]
    · rw [if_neg e, if_neg e]
      rfl
theorem pn_turn (n : Nat) (X : Nat → Nat → Bool) : pn n (fun i k => X k i) = pn n X := by
  have h1 : pn n (fun i k => X k i) = sm (fun j => sm (fun k => if X k j = true then 1 else 0) n) n := sm_c (fun j _ => cnt_sm (fun k => X k j) n)
  have h2 : pn n X = sm (fun j => sm (fun k => if X j k = true then 1 else 0) n) n := sm_c (fun j _ => cnt_sm (X j) n)
  rw [h1, h2]
  exact sm_sw (fun i k => if X k i = true then 1 else 0) n n
theorem cnt_not (f : Nat → Bool) : ∀ n, cnt f n + cnt (fun k => !(f k)) n = n
  | 0 => rfl
  | n + 1 => by
    have := cnt_not f n
    rw [cnt_0, cnt_0]
    cases f n with
    | true =>
      rw [if_pos rfl, if_neg (by decide)]
      omega
    | false =>
      rw [if_neg (by decide), if_pos (show (!false) = true from rfl)]
      omega
theorem pn_opp (n : Nat) (X : Nat → Nat → Bool) : pn n (fun i k => !(X i k)) = n * n - pn n X := by
  have h : pn n X + pn n (fun i k => !(X i k)) = n * n := by
    have h1 : sm (fun j => cnt (X j) n + cnt (fun k => !(X j k)) n) n = sm (fun _ => n) n := sm_c (fun j _ => cnt_not (X j) n)
    rw [sm_k n n, sm_add (fun j => cnt (X j) n) (fun j => cnt (fun k => !(X j k)) n) n] at h1
    exact h1
  omega
theorem cnt_lt2 {f : Nat → Bool} {j : Nat} (h : f j = true) : ∀ {k : Nat}, j < k → cnt f j < cnt f k
  | 0, hk => absurd hk (Nat.not_lt_zero j)
  | k + 1, hk => by
    rw [cnt_0]
    by_cases q : j = k
    · subst q
      rw [if_pos h]
      omega
    · have := cnt_lt2 h (k := k) (by omega)
      split <;> omega
/-! composing -/
def cpR (n : Nat) (X Y : Nat → Nat → Bool) : Nat → Nat → Bool := fun i k => anb (fun j => X i j && Y j k) n
theorem cpR_t {n : Nat} {X Y : Nat → Nat → Bool} {i k : Nat} : cpR n X Y i k = true ↔ ∃ j, j < n ∧ X i j = true ∧ Y j k = true := by
  show anb _ n = true ↔ _
  rw [anb_t]
  constructor
  · rintro ⟨j, hj, h⟩
    exact ⟨j, hj, bo_t h⟩
  · rintro ⟨j, hj, h1, h2⟩
    exact ⟨j, hj, by rw [h1, h2]; rfl⟩
theorem bo_ext {a b : Bool} (h : a = true ↔ b = true) : a = b := by
  cases a with
  | true => exact (h.mp rfl).symm
  | false =>
    cases b with
    | false => rfl
    | true => exact h.mpr rfl
theorem cpR_c {n : Nat} {X Y X' Y' : Nat → Nat → Bool} (h1 : ∀ i k, i < n → k < n → X i k = X' i k) (h2 : ∀ i k, i < n → k < n → Y i k = Y' i k) {i k : Nat} (hi : i < n) (hk : k < n) : cpR n X Y i k = cpR n X' Y' i k := anb_c (fun j hj => by rw [h1 i j hi hj, h2 j k hj hk])
theorem cpR_as (n : Nat) (X Y Z : Nat → Nat → Bool) (i k : Nat) : cpR n (cpR n X Y) Z i k = cpR n X (cpR n Y Z) i k := bo_ext ⟨fun h => by
    obtain ⟨j, hj, h1, h2⟩ := cpR_t.mp h
    obtain ⟨l, hl, h3, h4⟩ := cpR_t.mp h1
    exact cpR_t.mpr ⟨l, hl, h3, cpR_t.mpr ⟨j, hj, h4, h2⟩⟩, fun h => by
    obtain ⟨j, hj, h1, h2⟩ := cpR_t.mp h
    obtain ⟨l, hl, h3, h4⟩ := cpR_t.mp h2
    exact cpR_t.mpr ⟨l, hl, cpR_t.mpr ⟨j, hj, h1, h3⟩, h4⟩⟩
theorem cpR_or (n : Nat) (X Y Z : Nat → Nat → Bool) (i k : Nat) : cpR n X (fun i k => cmb 0 (Y i k) (Z i k)) i k = (cpR n X Y i k || cpR n X Z i k) := bo_ext ⟨fun h => by
    obtain ⟨j, hj, h1, h2⟩ := cpR_t.mp h
    rcases bo_o (show (Y j k || Z j k) = true from h2) with q | q
    · rw [cpR_t.mpr ⟨j, hj, h1, q⟩, Bool.true_or]
    · rw [cpR_t.mpr ⟨j, hj, h1, q⟩, Bool.or_true], fun h => by
    rcases bo_o h with q | q
    · obtain ⟨j, hj, h1, h2⟩ := cpR_t.mp q
      refine cpR_t.mpr ⟨j, hj, h1, ?_⟩
      show (Y j k || Z j k) = true
      rw [h2, Bool.true_or]
    · obtain ⟨j, hj, h1, h2⟩ := cpR_t.mp q
      refine cpR_t.mpr ⟨j, hj, h1, ?_⟩
      show (Y j k || Z j k) = true
      rw [h2, Bool.or_true]⟩
/-! a set that spreads -/
def spS (n : Nat) (X : Nat → Nat → Bool) (P : Nat → Bool) : Nat → Bool := fun k => P k || anb (fun i => P i && X i k) n
theorem spS_sub {n : Nat} {X : Nat → Nat → Bool} {P : Nat → Bool} {k : Nat} (h : P k = true) : spS n X P k = true := by
  show (P k || _) = true
  rw [h, Bool.true_or]
/-- what is marked lies behind b, and holds what is next to b -/
def spI (n : Nat) (X : Nat → Nat → Bool) (b : Nat) (P : Nat → Bool) : Prop := (∀ k, k < n → X b k = true → P k = true) ∧ ∀ k, k < n → P k = true → rchB X n b k = true
theorem spI_s {n b : Nat} {X : Nat → Nat → Bool} {P : Nat → Bool} (h : spI n X b P) : spI n X b (spS n X P) := ⟨fun k hk hx => spS_sub (h.1 k hk hx), fun k hk hs => by
  rcases bo_o (show (P k || anb (fun i => P i && X i k) n) = true from hs) with q | q
  · exact h.2 k hk q
  · obtain ⟨i, hi, q⟩ := anb_t.mp q
    exact rchB_tr hi hk (h.2 i hi (bo_t q).1) ((rchB_t hk).mpr (rch_1 hi (bo_t q).2))⟩
theorem spI_e {n b : Nat} {X : Nat → Nat → Bool} {P : Nat → Bool} (hb : b < n) (h : spI n X b P) (hc : cnt (spS n X P) n ≤ cnt P n) : ∀ k, k < n → spS n X P k = rchB X n b k := by
  have e := cnt_eq (f := P) (g := spS n X P) (n := n) (fun k _ q => spS_sub q) (Nat.le_antisymm (cnt_mono (fun k _ q => spS_sub q)) hc)
  have hw : ∀ m k, k < n → wkb X n b (m + 1) k = true → P k = true := by
    intro m
    induction m with
    | zero =>
      intro k hk q
      exact h.1 k hk ((wkb_1 hb).symm.trans q)
    | succ m ih =>
      intro k hk q
      obtain ⟨j, hj, h1, h2⟩ := wkb_s.mp q
      rw [e k hk]
      show (P k || anb (fun i => P i && X i k) n) = true
      rw [show anb (fun i => P i && X i k) n = true from anb_t.mpr ⟨j, hj, by rw [ih j hj h1, h2]; rfl⟩, Bool.or_true]
  intro k hk
  rw [← e k hk]
  refine bo_ext ⟨h.2 k hk, fun q => ?_⟩
  obtain ⟨m, hm⟩ := (rchB_t hk).mp q
  exact hw m k hk hm
theorem ff_k {P : Nat → Bool} {n k : Nat} (hn : n ≤ 80) (hk : k < n) (h : P k = true) : ff (fun j => P j && decide (nI (cnt P j) = nI (cnt P k))) n 0 = k := by
  refine ff_is (Nat.zero_le k) (by omega) ?_ (fun j _ hj => ?_)
  · rw [h, decide_eq_true rfl]
    rfl
  · cases e : P j with
    | false => rfl
    | true =>
      have h1 := cnt_lt2 e hj
      have h2 := cnt_le P k
      rw [decide_eq_false (fun q => by
        have := (nI_eq (by omega) (by omega)).mp q
        omega)]
      rfl
theorem ff_no {P : Nat → Bool} {n : Nat} (h : ∀ k, k < n → P k = false) (v : Int32) : ff (fun j => P j && decide (nI (cnt P j) = v)) n 0 = n := by
  rcases ff_s (f := fun j => P j && decide (nI (cnt P j) = v)) (m := n) (i := 0) rfl with ⟨h1, _⟩ | ⟨_, h2, h3, _⟩
  · omega
  · have := (bo_t h3).1
    rw [h _ (by omega)] at this
    cases this
theorem eom_0 {P : Nat → Bool} : ∀ {n : Nat}, (∀ k, k < n → P k = false) → eom P n = 0
  | 0, _ => rfl
  | n + 1, h => by
    show (if P n = true then n + 1 else eom P n) = 0
    rw [if_neg (by rw [h n (by omega)]; decide)]
    exact eom_0 (fun k hk => h k (by omega))
theorem eom_1 {P : Nat → Bool} {b : Nat} (hp : P b = true) : ∀ {n : Nat}, b < n → (∀ k, b < k → k < n → P k = false) → eom P n = b + 1
  | 0, h, _ => absurd h (Nat.not_lt_zero b)
  | n + 1, h, h2 => by
    show (if P n = true then n + 1 else eom P n) = b + 1
    by_cases q : b = n
    · subst q
      rw [if_pos hp]
    · rw [if_neg (by rw [h2 n (by omega) (by omega)]; decide)]
      exact eom_1 hp (by omega) (fun k h3 h4 => h2 k h3 (by omega))
end ZYM
