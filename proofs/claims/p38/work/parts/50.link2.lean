section ZZLL
/-! steps -/
def frS (R : Nat → Nat → Bool) (n j s k : Nat) : Bool := wkb R n j (s + 1) k && !(anb (fun t => wkb R n j (t + 1) k) s)
theorem frS_p {R : Nat → Nat → Bool} {n j s k : Nat} : frS R n j s k = true ↔ wkb R n j (s + 1) k = true ∧ ∀ t, t < s → wkb R n j (t + 1) k = false := by
  unfold frS
  rw [Bool.and_eq_true, Bool.not_eq_true']
  constructor
  · rintro ⟨h1, h2⟩
    refine ⟨h1, fun t ht => ?_⟩
    cases e : wkb R n j (t + 1) k
    · rfl
    · rw [anb_t.mpr ⟨t, ht, e⟩] at h2; cases h2
  · rintro ⟨h1, h2⟩
    refine ⟨h1, ?_⟩
    cases e : anb (fun t => wkb R n j (t + 1) k) s
    · rfl
    · obtain ⟨t, ht, h3⟩ := anb_t.mp e
      rw [h2 t ht] at h3; cases h3
theorem gIt_lk {L H : Nat → Int64} {n : Nat} {R : Nat → Nat → Bool} (hn : n ≤ 80) (h : lk L H n R) {j : Nat} (hj : j < n) : ∀ s, ls (gIt L H (L j, H j, L j, H j) s).1 (gIt L H (L j, H j, L j, H j) s).2.1 n (frS R n j s) ∧ ls (gIt L H (L j, H j, L j, H j) s).2.2.1 (gIt L H (L j, H j, L j, H j) s).2.2.2 n (fun k => anb (fun t => wkb R n j (t + 1) k) (s + 1))
  | 0 => by
    constructor
    · refine ls_c (h j hj) (fun k hk => ?_)
      rw [Bool.eq_iff_iff, frS_p, wkb_1 hj]
      exact ⟨fun q => ⟨q, fun t ht => absurd ht (Nat.not_lt_zero t)⟩, fun q => q.1⟩
    · refine ls_c (h j hj) (fun k hk => ?_)
      show R j k = (anb (fun t => wkb R n j (t + 1) k) 0 || wkb R n j 1 k)
      rw [wkb_1 hj]; rfl
  | s + 1 => by
    obtain ⟨h1, h2⟩ := gIt_lk hn h hj s
    have f1 : ls (gIt L H (L j, H j, L j, H j) (s + 1)).1 (gIt L H (L j, H j, L j, H j) (s + 1)).2.1 n (frS R n j (s + 1)) := by
      refine ls_c (ls_wo (ls_ig hn h h1) h2) (fun k hk => ?_)
      rw [Bool.eq_iff_iff, frS_p, Bool.and_eq_true, Bool.not_eq_true', anb_t]
      constructor
      · rintro ⟨⟨x, hx, q1⟩, q2⟩
        obtain ⟨q3, q4⟩ := bo_t q1
        refine ⟨wkb_s.mpr ⟨x, hx, (frS_p.mp q3).1, q4⟩, fun t ht => ?_⟩
        cases e : wkb R n j (t + 1) k
        · rfl
        · rw [anb_t.mpr ⟨t, ht, e⟩] at q2; cases q2
      · rintro ⟨q1, q2⟩
        obtain ⟨x, hx, q3, q4⟩ := wkb_s.mp q1
        refine ⟨⟨x, hx, ?_⟩, ?_⟩
        · have : frS R n j s x = true := frS_p.mpr ⟨q3, fun t ht => by
            cases e : wkb R n j (t + 1) x
            · rfl
            · have := wkb_s.mpr ⟨x, hx, e, q4⟩
              rw [q2 (t + 1) (by omega)] at this; cases this⟩
          rw [this, q4]; rfl
        · cases e : anb (fun t => wkb R n j (t + 1) k) (s + 1)
          · rfl
          · obtain ⟨t, ht, h3⟩ := anb_t.mp e
            rw [q2 t ht] at h3; cases h3
    refine ⟨f1, ?_⟩
    refine ls_c (ls_or h2 f1) (fun k hk => ?_)
    show (anb _ (s + 1) || frS R n j (s + 1) k) = (anb _ (s + 1) || wkb R n j (s + 1 + 1) k)
    unfold frS
    cases anb (fun t => wkb R n j (t + 1) k) (s + 1) <;> simp
/-- the answer of steps -/
def stS (R : Nat → Nat → Bool) (n i k : Nat) (v : Int32) : Prop := (v = -1 ∧ ¬ rch R n i k) ∨ ∃ d, d ≤ n ∧ v = nI d ∧ dst R n i k d
theorem stS_u {R : Nat → Nat → Bool} {n i k : Nat} {v w : Int32} (h1 : stS R n i k v) (h2 : stS R n i k w) : v = w := by
  rcases h1 with ⟨rfl, a⟩ | ⟨d, _, rfl, a⟩ <;> rcases h2 with ⟨rfl, b⟩ | ⟨e, _, rfl, b⟩
  · rfl
  · exact absurd ⟨e - 1, by rw [Nat.sub_add_cancel b.1]; exact b.2.1⟩ a
  · exact absurd ⟨d - 1, by rw [Nat.sub_add_cancel a.1]; exact a.2.1⟩ b
  · rw [dst_u a b]
theorem steps_s {L H : Nat → Int64} {n : Nat} {R : Nat → Nat → Bool} (hn : n ≤ 80) (h : lk L H n R) {j k : Nat} (hj : j < n) (hk : k < n) {z : Nat} (hz : ff (fun s => hld (gIt L H (L j, H j, L j, H j) s).1 (gIt L H (L j, H j, L j, H j) s).2.1 (nI k)) n 0 = z) : stS R n j k (if z = n then -1 else nI (z + 1)) := by
  have e : ∀ s, hld (gIt L H (L j, H j, L j, H j) s).1 (gIt L H (L j, H j, L j, H j) s).2.1 (nI k) = frS R n j s k := fun s => ls_hld (gIt_lk hn h hj s).1 hn hk
  rcases ff_s hz with ⟨h1, h2⟩ | ⟨_, h2, h3, h4⟩
  · have hzn : z = n := by omega
    rw [if_pos hzn]
    refine Or.inl ⟨rfl, fun hr => ?_⟩
    have h5 := (rchB_t hk).mpr hr
    obtain ⟨m, hm, hw⟩ := anb_t.mp h5
    obtain ⟨q, hq, hl⟩ := pk_least (fun t => wkb R n j (t + 1) k = true) ⟨m, hw⟩
    have hqm : q ≤ m := Nat.le_of_not_lt (fun c => hl m c hw)
    have h6 := h2 q (by omega) (by omega)
    rw [e, frS_p.mpr ⟨hq, fun t ht => by simpa using hl t ht⟩] at h6
    cases h6
  · have hzn : ¬ z = n := by omega
    rw [if_neg hzn]
    rw [e] at h3
    obtain ⟨q1, q2⟩ := frS_p.mp h3
    refine Or.inr ⟨z + 1, by omega, rfl, by omega, q1, fun m hm hw => ?_⟩
    refine Nat.le_of_not_lt (fun c => ?_)
    have := q2 (m - 1) (by omega)
    rw [Nat.sub_add_cancel hm, hw] at this
    cases this
theorem reach_l {L H : Nat → Int64} {n : Nat} {R : Nat → Nat → Bool} (hn : n ≤ 80) (h : lk L H n R) {j : Nat} (hj : j < n) : ls (gIt L H (L j, H j, L j, H j) n).2.2.1 (gIt L H (L j, H j, L j, H j) n).2.2.2 n (rchB R n j) := by
  refine ls_c (gIt_lk hn h hj n).2 (fun k hk => ?_)
  rw [Bool.eq_iff_iff, rchB_t hk, anb_t]
  constructor
  · rintro ⟨m, _, hw⟩
    exact ⟨m, hw⟩
  · intro hr
    obtain ⟨m, hm, hw⟩ := anb_t.mp ((rchB_t hk).mpr hr)
    exact ⟨m, by omega, hw⟩
/-! the longest walk -/
theorem alW_ls {n : Nat} (hn : n ≤ 80) : ls (alW n).1 (alW n).2 n (fun _ => true) := ls_c (ls_rng (a := 0) (Nat.le_refl n) hn (by omega)) (fun k hk => by
  show (decide (0 ≤ k) && decide (k < n)) = true
  rw [decide_eq_true hk, decide_eq_true (Nat.zero_le k)]; rfl)
theorem lIt_ls {L H : Nat → Int64} {n : Nat} {R : Nat → Nat → Bool} (hn : n ≤ 80) (h : lk L H n R) : ∀ s, ls (lIt L H (alW n) s).1 (lIt L H (alW n) s).2 n (weB R n s)
  | 0 => alW_ls hn
  | s + 1 => ls_ig hn h (lIt_ls hn h s)
theorem emp_ls {s : Int64 × Int64} {n : Nat} {S : Nat → Bool} (hn : n ≤ 80) (h : ls s.1 s.2 n S) : emp s = true ↔ ∀ k, k < n → S k = false := by
  unfold emp
  rw [Bool.and_eq_true, decide_eq_true_iff, decide_eq_true_iff, tb_z]
  constructor
  · intro q k hk
    rw [← ls_at h hn hk]
    exact q k (by omega)
  · intro q k hk
    rw [h k hk]
    by_cases e : k < n
    · rw [q k e, Bool.and_false]
    · rw [decide_eq_false e, Bool.false_and]
theorem longest_s {L H : Nat → Int64} {n : Nat} {R : Nat → Nat → Bool} (hn : n ≤ 80) (h1 : 1 ≤ n) (h : lk L H n R) {z : Nat} (hz : ff (fun s => emp (lIt L H (alW n) (s + 1))) n 0 = z) : (z = n ∧ rng1 R n) ∨ (z < n ∧ ¬ rng1 R n ∧ lwS R n z) := by
  have e : ∀ s, emp (lIt L H (alW n) s) = true ↔ ∀ k, k < n → weB R n s k = false := fun s => emp_ls hn (lIt_ls hn h s)
  have ex : ∀ s, emp (lIt L H (alW n) s) = false → ∃ k, k < n ∧ weB R n s k = true := fun s q => by
    refine Classical.byContradiction (fun hq => ?_)
    rw [(e s).mpr (fun k hk => by
      cases w : weB R n s k
      · rfl
      · exact absurd ⟨k, hk, w⟩ hq)] at q
    cases q
  rcases ff_s hz with ⟨q1, q2⟩ | ⟨_, q2, q3, q4⟩
  · refine Or.inl ⟨by omega, ?_⟩
    obtain ⟨k, hk, hw⟩ := ex n (by
      have := q2 (n - 1) (by omega) (by omega)
      rwa [Nat.sub_add_cancel h1] at this)
    exact we_ring hk hw
  · have hno := (e (z + 1)).mp q3
    refine Or.inr ⟨by omega, fun ⟨k, hk, hr⟩ => ?_, ?_, fun m x hx hw => ?_⟩
    · have := hno k hk
      rw [ring_we hr] at this; cases this
    · by_cases hz0 : z = 0
      · subst hz0; exact ⟨0, by omega, rfl⟩
      · have := ex z (by
          have := q4 (z - 1) (by omega) (by omega)
          rwa [Nat.sub_add_cancel (by omega)] at this)
        exact this
    · refine Nat.le_of_not_lt (fun c => ?_)
      have h5 : weB R n (z + 1 + (m - (z + 1))) x = true := by rw [show z + 1 + (m - (z + 1)) = m by omega]; exact hw
      have := weB_d h5
      rw [hno x hx] at this; cases this
/-! the first order -/
theorem nxO_s {L H : Nat → Int64} {n : Nat} {R : Nat → Nat → Bool} (hn : n ≤ 80) (h : lk L H n R) {s : Int64 × Int64} {p : Nat} (hs : ls s.1 s.2 n (fun k => !(orM R n p k))) : nxO L H s = if orX R n p = n then -1 else nI (orX R n p) := by
  have hf : ls (s.1 &&& (ig L s.1 s.2 ^^^ -1)) (s.2 &&& (ig H s.1 s.2 ^^^ -1)) n (fre R n (orM R n p)) := by
    refine ls_c (ls_wo hs (ls_ig hn h hs)) (fun k hk => ?_)
    unfold fre
    show (_ && !(anb (fun j => !(orM R n p j) && R j k) n)) = _
    congr 1
    rw [Bool.eq_iff_iff, Bool.not_eq_true', alb_t]
    constructor
    · intro q j hj
      cases e1 : orM R n p j
      · cases e2 : R j k
        · rfl
        · rw [anb_t.mpr ⟨j, hj, by rw [e1, e2]; rfl⟩] at q; cases q
      · rfl
    · intro q
      cases e : anb (fun j => !(orM R n p j) && R j k) n
      · rfl
      · obtain ⟨j, hj, h3⟩ := anb_t.mp e
        have h4 := q j hj
        revert h3 h4
        cases orM R n p j <;> cases R j k <;> decide
  unfold nxO
  rcases lsf_spec (s.1 &&& (ig L s.1 s.2 ^^^ -1)) (s.2 &&& (ig H s.1 s.2 ^^^ -1)) (e := 0) (by decide) with ⟨q1, q2⟩ | ⟨j, q1, _, q3, q4, q5⟩
  · have hx : orX R n p = n := by
      rcases orX_s (R := R) (n := n) (p := p) with ⟨q, _⟩ | ⟨a1, a2, _⟩
      · exact q
      · have := q2 (orX R n p) (Nat.zero_le _)
        rw [ls_at hf hn a1, a2] at this; cases this
    rw [if_pos hx]
    exact q1
  · have hj : j < n := by
      rcases Nat.lt_or_ge j n with q | q
      · exact q
      · rw [ls_no hf q] at q3; cases q3
    have hx : orX R n p = j := ff_is (Nat.zero_le j) (by omega) (by rw [← ls_at hf hn hj]; exact q3) (fun k _ hk => by rw [← ls_at hf hn (by omega : k < n)]; exact q4 k (Nat.zero_le k) hk)
    rw [if_neg (by omega), hx]
    exact q5
theorem lfO_s {L H : Nat → Int64} {n : Nat} {R : Nat → Nat → Bool} (hn : n ≤ 80) (h : lk L H n R) : ∀ p, (∀ j, j < p → orX R n j < n) → ls (lfO L H (alW n) p).1 (lfO L H (alW n) p).2 n (fun k => !(orM R n p k))
  | 0, _ => ls_c (alW_ls hn) (fun k _ => rfl)
  | p + 1, hx => by
    have ih := lfO_s hn h p (fun j hj => hx j (by omega))
    have hp := hx p (by omega)
    have e := nxO_s hn h ih
    rw [if_neg (by omega)] at e
    show ls (_ &&& (lwR (nxO L H (lfO L H (alW n) p)) (nxO L H (lfO L H (alW n) p) + 1) ^^^ -1)) (_ &&& (hgR (nxO L H (lfO L H (alW n) p)) (nxO L H (lfO L H (alW n) p) + 1) ^^^ -1)) n _
    rw [e, nI_1]
    refine ls_c (ls_wo ih (ls_rng (by omega) hn (by omega))) (fun k hk => ?_)
    rw [orM_s]
    by_cases q : k = orX R n p
    · rw [q, up_at, decide_eq_true (Nat.le_refl _), decide_eq_true (Nat.lt_succ_self _)]; simp
    · rw [up_ne _ _ q]
      have : (decide (orX R n p ≤ k) && decide (k < orX R n p + 1)) = false := by
        rw [Bool.and_eq_false_iff, decide_eq_false_iff_not, decide_eq_false_iff_not]
        omega
      rw [this]; simp
theorem nxO_r {L H : Nat → Int64} {n : Nat} {R : Nat → Nat → Bool} (hn : n ≤ 80) (h : lk L H n R) {p : Nat} (hx : ∀ j, j < p → orX R n j < n) : nxO L H (lfO L H (alW n) p) = if orX R n p = n then -1 else nI (orX R n p) := nxO_s hn h (lfO_s hn h p hx)
theorem foB_s {L H : Nat → Int64} {n : Nat} {R : Nat → Nat → Bool} (hn : n ≤ 80) (h : lk L H n R) : alb (fun i => decide (¬ nxO L H (lfO L H (alW n) i) = -1)) n = decide (orN R n = n) := by
  by_cases e : orN R n = n
  · rw [decide_eq_true e, alb_t]
    intro i hi
    have hx := orN_n e
    have := nxO_r hn h (p := i) (fun j hj => hx j (by omega))
    have hi2 := hx i hi
    rw [if_neg (by omega)] at this
    rw [this]
    exact decide_eq_true (fun q => absurd (q ▸ nI_pos (n := orX R n i) (by omega)) (by decide))
  · have hl : orN R n < n := by have := orN_le R n; omega
    obtain ⟨h1, h2⟩ := orN_lt hl
    rw [decide_eq_false e]
    refine alb_f hl ?_
    have := nxO_r hn h (p := orN R n) h1
    rw [if_pos h2] at this
    rw [this]
    exact decide_eq_false (fun q => q rfl)
end ZZLL
