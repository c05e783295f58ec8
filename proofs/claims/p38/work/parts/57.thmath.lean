section ZZTM
variable {n : Nat} {R : Nat → Nat → Bool} {L H A B : Nat → Int64}
theorem t_ctw (hn : n ≤ 80) (h : lk L H n R) (hA : lk A B n (rchB R n)) : alb (fun i => decide (A i = (gIt L H (L i, H i, L i, H i) n).2.2.1) && decide (B i = (gIt L H (L i, H i, L i, H i) n).2.2.2)) n = true := alb_t.mpr (fun i hi => by
  obtain ⟨e1, e2⟩ := ls_ext (hA i hi) (reach_l hn h hi) (fun _ _ => rfl)
  show (decide (A i = (gIt L H (L i, H i, L i, H i) n).2.2.1) && decide (B i = (gIt L H (L i, H i, L i, H i) n).2.2.2)) = true
  rw [decide_eq_true e1, decide_eq_true e2]; rfl)
theorem rchB_tr {a b c : Nat} (hb : b < n) (hc : c < n) (h1 : rchB R n a b = true) (h2 : rchB R n b c = true) : rchB R n a c = true := (rchB_t hc).mpr (rch_t ((rchB_t hb).mp h1) ((rchB_t hc).mp h2))
theorem lsN_sp {S : Nat → Nat → Bool} (e : Nat) : (lsN S e = e ∨ (S (lsN S e) e = true ∧ S e (lsN S e) = true)) ∧ ∀ a, a < lsN S e → ¬ (S a e = true ∧ S e a = true) := by
  have key : ∀ a, (S a e && S e a) = false → ¬ (S a e = true ∧ S e a = true) := fun a h q => by rw [q.1, q.2] at h; cases h
  rcases ff_s (show ff (fun a => S a e && S e a) e 0 = lsN S e from rfl) with ⟨h1, h2⟩ | ⟨_, h2, h3, h4⟩
  · exact ⟨Or.inl (by omega), fun a ha => key a (h2 a (Nat.zero_le a) (by omega))⟩
  · exact ⟨Or.inr (bo_t h3), fun a ha => key a (h4 a (Nat.zero_le a) ha)⟩
theorem lsN_eq {S : Nat → Nat → Bool} (hT : ∀ a b c, b < n → c < n → S a b = true → S b c = true → S a c = true) {b e : Nat} (hb : b < n) (he : e < n) (hne : b ≠ e) : lsN S b = lsN S e ↔ (S b e = true ∧ S e b = true) := by
  obtain ⟨b1, b2⟩ := lsN_sp (S := S) b
  obtain ⟨e1, e2⟩ := lsN_sp (S := S) e
  have lb := lsN_le S b
  have le := lsN_le S e
  constructor
  · intro h
    rcases b1 with b1 | ⟨b1, b3⟩ <;> rcases e1 with e1 | ⟨e1, e3⟩
    · omega
    · rw [← h, b1] at e1 e3; exact ⟨e1, e3⟩
    · rw [h, e1] at b1 b3; exact ⟨b3, b1⟩
    · rw [← h] at e1 e3
      exact ⟨hT _ _ _ (by omega) he b3 e1, hT _ _ _ (by omega) hb e3 b1⟩
  · rintro ⟨h1, h2⟩
    rcases Nat.lt_trichotomy (lsN S b) (lsN S e) with q | q | q
    · refine absurd ?_ (e2 _ q)
      rcases b1 with b1 | ⟨b1, b3⟩
      · rw [b1]; exact ⟨h1, h2⟩
      · exact ⟨hT _ _ _ hb he b1 h1, hT _ _ _ hb (by omega) h2 b3⟩
    · exact q
    · refine absurd ?_ (b2 _ q)
      rcases e1 with e1 | ⟨e1, e3⟩
      · rw [e1]; exact ⟨h2, h1⟩
      · exact ⟨hT _ _ _ he hb e1 h2, hT _ _ _ he (by omega) h1 e3⟩
theorem t_cpe (hn : n ≤ 80) (hA : lk A B n (rchB R n)) : alb (fun e => alb (fun b => decide ((ff (fun a => ioc A B a b) b 0) = (ff (fun a => ioc A B a e) e 0)) == ioc A B b e) e) n = true := by
  refine alb_t.mpr (fun e he => alb_t.mpr (fun b hb => ?_))
  have hbn : b < n := by omega
  show (decide ((ff (fun a => ioc A B a b) b 0) = (ff (fun a => ioc A B a e) e 0)) == ioc A B b e) = true
  rw [ls_lsN hn hA hbn, ls_lsN hn hA he]
  have e1 : ioc A B b e = (rchB R n b e && rchB R n e b) := by
    unfold ioc
    rw [decide_eq_false (by omega), Bool.false_or, ls_hld (hA b hbn) hn he, ls_hld (hA e he) hn hbn]
  rw [e1, beq_iff_eq, Bool.eq_iff_iff, decide_eq_true_iff, Bool.and_eq_true]
  exact lsN_eq (n := n) (S := rchB R n) (fun a b c hb hc q1 q2 => rchB_tr hb hc q1 q2) hbn he (by omega)
/-! the order -/
theorem cnt_0i {f : Nat → Bool} : ∀ {m : Nat}, cnt f m = 0 → ∀ k, k < m → f k = false
  | 0, _, k, hk => absurd hk (Nat.not_lt_zero k)
  | m + 1, h, k, hk => by
    rw [cnt_0] at h
    by_cases e : f m = true
    · rw [if_pos e] at h; omega
    · rw [if_neg e] at h
      by_cases q : k = m
      · rw [q]; simpa using e
      · exact cnt_0i h k (by omega)
theorem ows_0 (hn : n ≤ 80) (hA : lk A B n (rchB R n)) : ows A B n = 0 ↔ ¬ rng1 R n := by
  have hc : cnt (fun k => rchB R n k k) n ≤ n := cnt_le _ n
  rw [lk_ows hn hA n (Nat.le_refl n), show (0 : Int32) = nI 0 from rfl, nI_eq (by omega) (by omega), ← ring_b]
  constructor
  · intro h q
    rw [anb_f.mpr (cnt_0i h)] at q; cases q
  · intro h
    refine cnt_z (fun k hk => ?_)
    cases e : rchB R n k k
    · rfl
    · exact absurd ((anb_t (f := fun k => rchB R n k k)).mpr ⟨k, hk, e⟩) h
theorem psO_s (hn : n ≤ 80) (h : lk L H n R) (ho : orN R n = n) : ∀ i, i ≤ n → ls (psO L H n i).1 (psO L H n i).2 n (orM R n i)
  | 0, _ => ls_c (ls_0 n) (fun k _ => rfl)
  | i + 1, hi => by
    have hx := orN_n ho
    have ih := psO_s hn h ho i (by omega)
    have hxi := hx i (by omega)
    have e := nxO_r hn h (p := i) (fun j hj => hx j (by omega))
    rw [if_neg (by omega)] at e
    show ls ((psO L H n i).1 ||| lwR (nxO L H (lfO L H (alW n) i)) (nxO L H (lfO L H (alW n) i) + 1)) ((psO L H n i).2 ||| hgR (nxO L H (lfO L H (alW n) i)) (nxO L H (lfO L H (alW n) i) + 1)) n _
    rw [e, nI_1]
    refine ls_c (ls_or ih (ls_rng (by omega) hn (by omega))) (fun k hk => ?_)
    rw [orM_s]
    by_cases q : k = orX R n i
    · rw [q, up_at, decide_eq_true (Nat.le_refl _), decide_eq_true (Nat.lt_succ_self _)]; simp
    · rw [up_ne _ _ q, show (decide (orX R n i ≤ k) && decide (k < orX R n i + 1)) = false by rw [← Bool.decide_and, decide_eq_false (by omega)], Bool.or_false]
theorem t_ok (hn : n ≤ 80) (h : lk L H n R) (hA : lk A B n (rchB R n)) : okB A B L H n = true := by
  unfold okB
  rw [show foB L H n = decide (orN R n = n) from foB_s hn h]
  by_cases ho : orN R n = n
  · have hz := (ows_0 hn hA).mpr (or_ring.mp ho)
    have hx := orN_n ho
    rw [if_pos (decide_eq_true ho), decide_eq_true hz]
    have h1 : alb (fun i => !(mtB L H n i)) n = true := alb_t.mpr (fun i hi => by
      have hxi := hx i hi
      have e := nxO_r hn h (p := i) (fun j hj => hx j (by omega))
      rw [if_neg (by omega)] at e
      have ex : xN L H n i = orX R n i := by
        unfold xN
        rw [e, nI_clamp (by omega)]
      show (!(mtB L H n i)) = true
      unfold mtB
      rw [ex]
      have hm := (ls_meet hn (h _ hxi) (psO_s hn h ho (i + 1) (by omega))).mpr (anb_f.mpr (fun k hk => by
        cases q : (R (orX R n i) k && orM R n (i + 1) k)
        · rfl
        · obtain ⟨q1, q2⟩ := bo_t q
          obtain ⟨j, hj, rfl⟩ := orM_i.mp q2
          obtain ⟨j2, hj2, q3⟩ := orX_pre hk hxi q1
          exact absurd q3 (orX_ne (by omega) hxi)))
      rw [decide_eq_true hm.1, decide_eq_true hm.2]; rfl)
    rw [h1, Bool.true_and, Bool.true_and, decide_eq_true_iff]
    show szr (psO L H n n).1 (psO L H n n).2 = nI n
    rw [ls_szr hn (psO_s hn h ho n (Nat.le_refl n)), orM_n hx]
  · have hz : ¬ ows A B n = 0 := fun q => ho (or_ring.mpr ((ows_0 hn hA).mp q))
    rw [if_neg (by rw [decide_eq_false ho]; decide), decide_eq_false hz]; rfl
/-! covers -/
theorem cnt_str {f g : Nat → Bool} {j : Nat} (hj : j < n) (h1 : f j = false) (h2 : g j = true) (h : ∀ k, k < n → f k = true → g k = true) : cnt f n < cnt g n := by
  have e1 := cnt_up (f := f) (g := va_up f j true) (k := j) hj h1 (up_at f j true) (fun k _ hk => (up_ne f true hk).symm)
  have e2 := cnt_mono (f := va_up f j true) (g := g) (n := n) (fun k hk q => by
    by_cases e : k = j
    · rw [e]; exact h2
    · rw [up_ne _ _ e] at q; exact h k hk q)
  omega
theorem cov_1 {S : Nat → Nat → Bool} (hT : ∀ a b c, a < n → b < n → c < n → S a b = true → S b c = true → S a c = true) {a : Nat} (ha : a < n) : ∀ m b, b < n → wkb (cvB S n) n a (m + 1) b = true → S a b = true
  | 0, b, hb, h => by
    rw [wkb_1 ha] at h
    exact (bo_t h).1
  | m + 1, b, hb, h => by
    obtain ⟨j, hj, h1, h2⟩ := wkb_s.mp h
    exact hT a j b ha hj hb (cov_1 hT ha m j hj h1) (bo_t h2).1
theorem cov_2 {S : Nat → Nat → Bool} (hT : ∀ a b c, a < n → b < n → c < n → S a b = true → S b c = true → S a c = true) (hI : ∀ a, a < n → S a a = false) : ∀ c a b, a < n → b < n → cnt (fun j => S a j && S j b) n ≤ c → S a b = true → rch (cvB S n) n a b := by
  intro c
  induction c with
  | zero =>
    intro a b ha hb hc h
    refine rch_1 ha ?_
    unfold cvB
    rw [h, Bool.true_and, alb_t]
    intro j hj
    have := cnt_0i (Nat.le_zero.mp hc) j hj
    show (!(S a j) || !(S j b)) = true
    rw [← Bool.not_and, this]; rfl
  | succ c ih =>
    intro a b ha hb hc h
    by_cases q : ∃ j, j < n ∧ S a j = true ∧ S j b = true
    · obtain ⟨j, hj, h1, h2⟩ := q
      have g : (fun k => S a k && S k b) j = true := by show (S a j && S j b) = true; rw [h1, h2]; rfl
      have c1 := cnt_str (f := fun k => S a k && S k j) (g := fun k => S a k && S k b) hj (by show (S a j && S j j) = false; rw [hI j hj, Bool.and_false]) g (fun k hk e => by
        obtain ⟨e1, e2⟩ := bo_t e
        show (S a k && S k b) = true
        rw [e1, hT k j b hk hj hb e2 h2]; rfl)
      have c2 := cnt_str (f := fun k => S j k && S k b) (g := fun k => S a k && S k b) hj (by show (S j j && S j b) = false; rw [hI j hj, Bool.false_and]) g (fun k hk e => by
        obtain ⟨e1, e2⟩ := bo_t e
        show (S a k && S k b) = true
        rw [e2, hT a j k ha hj hk h1 e1]; rfl)
      exact rch_t (ih a j ha hj (by omega) h1) (ih j b hj hb (by omega) h2)
    · refine rch_1 ha ?_
      unfold cvB
      rw [h, Bool.true_and, alb_t]
      intro j hj
      show (!(S a j) || !(S j b)) = true
      cases e1 : S a j
      · rfl
      · cases e2 : S j b
        · rfl
        · exact absurd ⟨j, hj, e1, e2⟩ q
theorem t_cg (hn : n ≤ 80) (hA : lk A B n (rchB R n)) (L6 H6 : Nat → Int64) : cgB A B L6 H6 n = true := by
  unfold cgB
  by_cases hz : ows A B n = 0
  · rw [if_pos hz]
    have hno := (ows_0 hn hA).mp hz
    have hT : ∀ a b c, a < n → b < n → c < n → rchB R n a b = true → rchB R n b c = true → rchB R n a c = true := fun a b c _ hb hc h1 h2 => rchB_tr hb hc h1 h2
    have hI : ∀ a, a < n → rchB R n a a = false := fun a ha => by
      cases e : rchB R n a a
      · rfl
      · exact absurd (⟨a, ha, (rchB_t ha).mp e⟩ : rng1 R n) hno
    have hC := clP_r hn (lk_cov (A' := L6) (B' := H6) hn hA)
    have e1 : alb (fun k => sbz (A k) (B k) ((clP n (cpy n (cvr A B) L6, cpy n (cvh A B) H6) n).1 k) ((clP n (cpy n (cvr A B) L6, cpy n (cvh A B) H6) n).2 k)) n = true := by
      have e0 := lk_sub hn hA hC
      refine e0.trans (sbR_t.mpr (fun i k hi hk h => (rchB_t hk).mpr (cov_2 hT hI n i k hi hk (cnt_le _ n) h)))
    have e2 : alb (fun k => sbz ((clP n (cpy n (cvr A B) L6, cpy n (cvh A B) H6) n).1 k) ((clP n (cpy n (cvr A B) L6, cpy n (cvh A B) H6) n).2 k) (A k) (B k)) n = true := by
      have e0 := lk_sub hn hC hA
      refine e0.trans (sbR_t.mpr (fun i k hi hk h => ?_))
      obtain ⟨m, hm⟩ := (rchB_t hk).mp h
      exact cov_1 hT hi m k hk hm
    rw [e1, e2]; rfl
  · rw [if_neg hz]
end ZZTM
