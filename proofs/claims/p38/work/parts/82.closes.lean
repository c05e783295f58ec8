section ZYC
variable {El : Nat → Int32} {Lo Hi : Nat → Nat → Int64} {BL BH : Nat → Int64} {Od : Nat → Nat → Int32} {Ls : Nat → Int32} {n : Nat} {R : Nat → Nat → Nat → Bool} {mk : Nat → Bool} {MB : Nat → Nat → Bool} {rho nu : Nat → Int32} {T : zz_St}
/-- the closure by letting one element after the other lie between -/
def wsh (X : Nat → Nat → Bool) : Nat → Nat → Nat → Bool
  | 0 => X
  | t + 1 => fun a k => wsh X t a k || (wsh X t a t && wsh X t t k)
theorem wsh_e {X : Nat → Nat → Bool} {t a k : Nat} : wsh X (t + 1) a k = (wsh X t a k || (wsh X t a t && wsh X t t k)) := rfl
theorem wsh_or {X : Nat → Nat → Bool} {t a k : Nat} : wsh X (t + 1) a k = true ↔ wsh X t a k = true ∨ (wsh X t a t = true ∧ wsh X t t k = true) := by
  rw [wsh_e, Bool.or_eq_true, Bool.and_eq_true]
theorem wsh_sub {X : Nat → Nat → Bool} {a k : Nat} (h : X a k = true) : ∀ t, wsh X t a k = true
  | 0 => h
  | t + 1 => wsh_or.mpr (Or.inl (wsh_sub h t))
theorem wsh_rch {X : Nat → Nat → Bool} {n : Nat} : ∀ {t a k : Nat}, t ≤ n → a < n → wsh X t a k = true → rch X n a k
  | 0, a, k, _, ha, h => rch_1 ha h
  | t + 1, a, k, ht, ha, h => by
    rcases wsh_or.mp h with h | ⟨h1, h2⟩
    · exact wsh_rch (by omega) ha h
    · exact rch_t (wsh_rch (by omega) ha h1) (wsh_rch (by omega) (by omega) h2)
theorem wsh_tr {X : Nat → Nat → Bool} : ∀ {t s a k : Nat}, s < t → wsh X t a s = true → wsh X t s k = true → wsh X t a k = true
  | 0, s, a, k, hs, _, _ => absurd hs (Nat.not_lt_zero s)
  | t + 1, s, a, k, hs, h1, h2 => by
    by_cases e : s = t
    · subst e
      have h1' : wsh X s a s = true := by
        rcases wsh_or.mp h1 with h | h
        · exact h
        · exact h.1
      have h2' : wsh X s s k = true := by
        rcases wsh_or.mp h2 with h | h
        · exact h
        · exact h.2
      exact wsh_or.mpr (Or.inr ⟨h1', h2'⟩)
    · have hs' : s < t := by omega
      rcases wsh_or.mp h1 with p1 | ⟨p1, p2⟩
      · rcases wsh_or.mp h2 with q1 | ⟨q1, q2⟩
        · exact wsh_or.mpr (Or.inl (wsh_tr hs' p1 q1))
        · exact wsh_or.mpr (Or.inr ⟨wsh_tr hs' p1 q1, q2⟩)
      · rcases wsh_or.mp h2 with q1 | ⟨q1, q2⟩
        · exact wsh_or.mpr (Or.inr ⟨p1, wsh_tr hs' p2 q1⟩)
        · exact wsh_or.mpr (Or.inr ⟨p1, q2⟩)
theorem wsh_w {X : Nat → Nat → Bool} {n a : Nat} (ha : a < n) : ∀ {m k : Nat}, wkb X n a (m + 1) k = true → wsh X n a k = true
  | 0, k, h => wsh_sub ((wkb_1 ha).symm.trans h) n
  | m + 1, k, h => by
    obtain ⟨j, hj, h1, h2⟩ := wkb_s.mp h
    exact wsh_tr hj (wsh_w ha h1) (wsh_sub h2 n)
theorem wsh_n {X : Nat → Nat → Bool} {n a k : Nat} (ha : a < n) (hk : k < n) : wsh X n a k = rchB X n a k := by
  cases e : rchB X n a k with
  | true =>
    obtain ⟨m, hm⟩ := (rchB_t hk).mp e
    exact wsh_w ha hm
  | false =>
    cases e2 : wsh X n a k with
    | false => rfl
    | true => exact absurd (wsh_rch (Nat.le_refl n) ha e2) ((rchB_f hk).mp e)
/-- a grid on its way from A to B: rows below i, and of row i what lies below k, are B -/
def grm (n : Nat) (f : Nat → Bool) (A B : Nat → Nat → Bool) (i k : Nat) : Prop := ∀ a c, a < n → c < n → f (80 * a + c) = if a < i ∨ (a = i ∧ c < k) then B a c else A a c
theorem grm_0 {n : Nat} {f : Nat → Bool} {A B : Nat → Nat → Bool} (h : gr n f A) : grm n f A B 0 0 := fun a c ha hc => by
  rw [if_neg (by omega)]
  exact h a c ha hc
theorem grm_n {n : Nat} {f : Nat → Bool} {A B : Nat → Nat → Bool} (h : grm n f A B n 0) : gr n f B := fun a c ha hc => by
  rw [h a c ha hc, if_pos (by omega)]
theorem grm_r {n : Nat} {f : Nat → Bool} {A B : Nat → Nat → Bool} {i : Nat} (h : grm n f A B i n) : grm n f A B (i + 1) 0 := fun a c ha hc => by
  rw [h a c ha hc]
  by_cases e : a < i ∨ (a = i ∧ c < n)
  · rw [if_pos e, if_pos (by omega)]
  · rw [if_neg e, if_neg (by omega)]
theorem grm_k {n : Nat} {f : Nat → Bool} {A B : Nat → Nat → Bool} {i : Nat} (h : grm n f A B i 0) (e : ∀ c, c < n → A i c = B i c) : grm n f A B (i + 1) 0 := fun a c ha hc => by
  rw [h a c ha hc]
  by_cases q : a = i
  · subst q
    rw [if_neg (by omega), if_pos (by omega)]
    exact e c hc
  · by_cases q2 : a < i
    · rw [if_pos (by omega), if_pos (by omega)]
    · rw [if_neg (by omega), if_neg (by omega)]
theorem grm_s {n : Nat} {f : Nat → Bool} {A B : Nat → Nat → Bool} {i k : Nat} (hn : n ≤ 80) (hi : i < n) (hk : k < n) (h : grm n f A B i k) : grm n (va_up f (80 * i + k) (B i k)) A B i (k + 1) := fun a c ha hc => by
  by_cases e : a = i ∧ c = k
  · obtain ⟨rfl, rfl⟩ := e
    rw [up_at, if_pos (by omega)]
  · rw [up_ne _ _ (fun q => e (gx (by omega) (by omega) q)), h a c ha hc]
    by_cases q : a < i ∨ (a = i ∧ c < k)
    · rw [if_pos q, if_pos (by omega)]
    · rw [if_neg q, if_neg (by omega)]
theorem zB_or (a b : Bool) : zB a ||| zB b = zB (a || b) := by cases a <;> cases b <;> decide
set_option maxHeartbeats 1000000 in
set_option maxRecDepth 20000 in
theorem cp_k {q w : Nat} (hw : 54 ≤ w ∧ w < 57) (hq : 54 ≤ q ∧ q < 57) (hwq : w ≠ q) (hn : n ≤ 80) {X : Nat → Nat → Bool} {MB0 : Nat → Nat → Bool} (h0 : gr n (MB0 w) X) {a : Nat} (ha : a < n) (rc rz : Nat) (K : ∀ MB, grp n (MB q) X (a + 1) 0 → (∀ p, p ≠ q → MB p = MB0 p) → zz_E mL_closes none 0 rc rz (fun o τ => ∃ MB2, gr n (MB2 q) (rchB X n) ∧ (∀ p, p ≠ q → MB2 p = MB0 p) ∧ o = .inl none ∧ τ = px El Lo Hi BL BH Od Ls (nI n) (pl MB2 rho nu T)) 40 [(3, .int (nI a)), (0, .ref w), (1, .int (nI n)), (2, .ref q)] [] (px El Lo Hi BL BH Od Ls (nI n) (pl MB rho nu T))) : ∀ (m i : Nat), i + m = n → ∀ MB, grp n (MB q) X a i → (∀ p, p ≠ q → MB p = MB0 p) → zz_E mL_closes none 0 rc rz (fun o τ => ∃ MB2, gr n (MB2 q) (rchB X n) ∧ (∀ p, p ≠ q → MB2 p = MB0 p) ∧ o = .inl none ∧ τ = px El Lo Hi BL BH Od Ls (nI n) (pl MB2 rho nu T)) 10 [(4, .int (nI i)), (3, .int (nI a)), (0, .ref w), (1, .int (nI n)), (2, .ref q)] [] (px El Lo Hi BL BH Od Ls (nI n) (pl MB rho nu T)) := by
  intro m
  induction m with
  | zero =>
    intro i hi MB hg hp
    have hk : n = i := by omega
    subst hk
    refine zz_iload dL_closes_10 rfl ?_
    refine zz_iload_n dL_closes_12 rfl ?_
    refine zz_icmp_ge (tgt := 40) dL_closes_13 (by decide) (fun _ => ?_) (fun h => absurd (nI_le (Nat.le_refl _) (by omega)) h)
    refine zz_lvl (lv2 := [(3, .int (nI a)), (0, .ref w), (1, .int (nI n)), (2, .ref q)]) ⟨rfl, rfl, rfl, rfl, trivial⟩ ?_
    exact K MB (grp_r hg) hp
  | succ m ih =>
    intro i hi MB hg hp
    have hk : i < n := by omega
    refine zz_iload dL_closes_10 rfl ?_
    refine zz_iload_n dL_closes_12 rfl ?_
    refine zz_icmp_ge (tgt := 40) dL_closes_13 (by decide) (fun h => absurd h (nI_ge (by omega) (by omega))) (fun _ => ?_)
    refine zz_aload_n dL_closes_16 rfl ?_
    refine zz_bipush (v := 80) dL_closes_17 (by decide) ?_
    refine zz_iload_n dL_closes_19 rfl ?_
    refine zz_imul dL_closes_20 ?_
    refine zz_iload dL_closes_21 rfl ?_
    refine zz_iadd dL_closes_23 ?_
    refine zz_tope (y := nI (80 * a + i)) (by simp only [i80, i81, pk_mul, nI_add, nI_1]) ?_
    refine zz_aload_n dL_closes_24 rfl ?_
    refine zz_bipush (v := 80) dL_closes_25 (by decide) ?_
    refine zz_iload_n dL_closes_27 rfl ?_
    refine zz_imul dL_closes_28 ?_
    refine zz_iload dL_closes_29 rfl ?_
    refine zz_iadd dL_closes_31 ?_
    refine zz_tope (y := nI (80 * a + i)) (by simp only [i80, i81, pk_mul, nI_add, nI_1]) ?_
    refine zl_qb dL_closes_32 (by omega) (by omega) ?_
    rw [show MB w (80 * a + i) = X a i by rw [hp w hwq]; exact h0 a i ha hk]
    refine zs_qb dL_closes_33 (by omega) (by omega) ?_
    refine zz_iinc (v := nI (i + 1)) dL_closes_34 rfl (nI_1 i) (by decide) ?_
    refine zz_goto (tgt := 10) dL_closes_37 (by decide) ?_
    refine zz_lvl (lv2 := [(4, .int (nI (i + 1))), (3, .int (nI a)), (0, .ref w), (1, .int (nI n)), (2, .ref q)]) ⟨rfl, rfl, rfl, rfl, rfl, trivial⟩ ?_
    exact ih (i + 1) (by omega) _ (by rw [up_at]; exact grp_s hn ha hk hg) (fun p hpq => (up_ne _ _ hpq).trans (hp p hpq))
set_option maxHeartbeats 1000000 in
set_option maxRecDepth 20000 in
theorem cp_i {q w : Nat} (hw : 54 ≤ w ∧ w < 57) (hq : 54 ≤ q ∧ q < 57) (hwq : w ≠ q) (hn : n ≤ 80) {X : Nat → Nat → Bool} {MB0 : Nat → Nat → Bool} (h0 : gr n (MB0 w) X) (rc rz : Nat) (K : ∀ MB, gr n (MB q) X → (∀ p, p ≠ q → MB p = MB0 p) → zz_E mL_closes none 0 rc rz (fun o τ => ∃ MB2, gr n (MB2 q) (rchB X n) ∧ (∀ p, p ≠ q → MB2 p = MB0 p) ∧ o = .inl none ∧ τ = px El Lo Hi BL BH Od Ls (nI n) (pl MB2 rho nu T)) 46 [(0, .ref w), (1, .int (nI n)), (2, .ref q)] [] (px El Lo Hi BL BH Od Ls (nI n) (pl MB rho nu T))) : ∀ (m i : Nat), i + m = n → ∀ MB, grp n (MB q) X i 0 → (∀ p, p ≠ q → MB p = MB0 p) → zz_E mL_closes none 0 rc rz (fun o τ => ∃ MB2, gr n (MB2 q) (rchB X n) ∧ (∀ p, p ≠ q → MB2 p = MB0 p) ∧ o = .inl none ∧ τ = px El Lo Hi BL BH Od Ls (nI n) (pl MB2 rho nu T)) 2 [(3, .int (nI i)), (0, .ref w), (1, .int (nI n)), (2, .ref q)] [] (px El Lo Hi BL BH Od Ls (nI n) (pl MB rho nu T)) := by
  intro m
  induction m with
  | zero =>
    intro i hi MB hg hp
    have hk : n = i := by omega
    subst hk
    refine zz_iload_n dL_closes_2 rfl ?_
    refine zz_iload_n dL_closes_3 rfl ?_
    refine zz_icmp_ge (tgt := 46) dL_closes_4 (by decide) (fun _ => ?_) (fun h => absurd (nI_le (Nat.le_refl _) (by omega)) h)
    refine zz_lvl (lv2 := [(0, .ref w), (1, .int (nI n)), (2, .ref q)]) ⟨rfl, rfl, rfl, trivial⟩ ?_
    exact K MB (grp_n hg) hp
  | succ m ih =>
    intro i hi MB hg hp
    have hk : i < n := by omega
    refine zz_iload_n dL_closes_2 rfl ?_
    refine zz_iload_n dL_closes_3 rfl ?_
    refine zz_icmp_ge (tgt := 46) dL_closes_4 (by decide) (fun h => absurd h (nI_ge (by omega) (by omega))) (fun _ => ?_)
    refine zz_iconst (v := 0) dL_closes_7 (by decide) ?_
    refine zz_istore dL_closes_8 (by decide) ?_
    refine zz_lvl (lv2 := [(4, .int (nI 0)), (3, .int (nI i)), (0, .ref w), (1, .int (nI n)), (2, .ref q)]) ⟨rfl, rfl, rfl, rfl, rfl, trivial⟩ ?_
    refine cp_k hw hq hwq hn h0 hk _ _ (fun MB2 hg2 hp2 => ?_) n 0 (by omega) MB hg hp
    refine zz_iinc (v := nI (i + 1)) dL_closes_40 rfl (nI_1 i) (by decide) ?_
    refine zz_goto (tgt := 2) dL_closes_43 (by decide) ?_
    refine zz_lvl (lv2 := [(3, .int (nI (i + 1))), (0, .ref w), (1, .int (nI n)), (2, .ref q)]) ⟨rfl, rfl, rfl, rfl, trivial⟩ ?_
    exact ih (i + 1) (by omega) MB2 hg2 hp2
set_option maxHeartbeats 1000000 in
set_option maxRecDepth 20000 in
theorem wk_k {q w : Nat} (hw : 54 ≤ w ∧ w < 57) (hq : 54 ≤ q ∧ q < 57) (hwq : w ≠ q) (hn : n ≤ 80) {X : Nat → Nat → Bool} {MB0 : Nat → Nat → Bool} (h0 : gr n (MB0 w) X) {t : Nat} (ht : t < n) {a : Nat} (ha : a < n) (hat : wsh X t a t = true) (rc rz : Nat) (K : ∀ MB, grm n (MB q) (wsh X t) (wsh X (t + 1)) (a + 1) 0 → (∀ p, p ≠ q → MB p = MB0 p) → zz_E mL_closes none 0 rc rz (fun o τ => ∃ MB2, gr n (MB2 q) (rchB X n) ∧ (∀ p, p ≠ q → MB2 p = MB0 p) ∧ o = .inl none ∧ τ = px El Lo Hi BL BH Od Ls (nI n) (pl MB2 rho nu T)) 111 [(4, .int (nI a)), (3, .int (nI t)), (0, .ref w), (1, .int (nI n)), (2, .ref q)] [] (px El Lo Hi BL BH Od Ls (nI n) (pl MB rho nu T))) : ∀ (m i : Nat), i + m = n → ∀ MB, grm n (MB q) (wsh X t) (wsh X (t + 1)) a i → (∀ p, p ≠ q → MB p = MB0 p) → zz_E mL_closes none 0 rc rz (fun o τ => ∃ MB2, gr n (MB2 q) (rchB X n) ∧ (∀ p, p ≠ q → MB2 p = MB0 p) ∧ o = .inl none ∧ τ = px El Lo Hi BL BH Od Ls (nI n) (pl MB2 rho nu T)) 77 [(5, .int (nI i)), (4, .int (nI a)), (3, .int (nI t)), (0, .ref w), (1, .int (nI n)), (2, .ref q)] [] (px El Lo Hi BL BH Od Ls (nI n) (pl MB rho nu T)) := by
  intro m
  induction m with
  | zero =>
    intro i hi MB hg hp
    have hk : n = i := by omega
    subst hk
    refine zz_iload dL_closes_77 rfl ?_
    refine zz_iload_n dL_closes_79 rfl ?_
    refine zz_icmp_ge (tgt := 111) dL_closes_80 (by decide) (fun _ => ?_) (fun h => absurd (nI_le (Nat.le_refl _) (by omega)) h)
    refine zz_lvl (lv2 := [(4, .int (nI a)), (3, .int (nI t)), (0, .ref w), (1, .int (nI n)), (2, .ref q)]) ⟨rfl, rfl, rfl, rfl, rfl, trivial⟩ ?_
    exact K MB (grm_r hg) hp
  | succ m ih =>
    intro i hi MB hg hp
    have hk : i < n := by omega
    have e1 : MB q (80 * a + i) = wsh X t a i := by rw [hg a i ha hk, if_neg (by omega)]
    have e2 : MB q (80 * t + i) = wsh X t t i := by
      rw [hg t i ht hk]
      by_cases e : t < a ∨ (t = a ∧ i < i)
      · rw [if_pos e, wsh_e]
        cases wsh X t t i <;> cases wsh X t t t <;> rfl
      · rw [if_neg e]
    refine zz_iload dL_closes_77 rfl ?_
    refine zz_iload_n dL_closes_79 rfl ?_
    refine zz_icmp_ge (tgt := 111) dL_closes_80 (by decide) (fun h => absurd h (nI_ge (by omega) (by omega))) (fun _ => ?_)
    refine zz_aload_n dL_closes_83 rfl ?_
    refine zz_bipush (v := 80) dL_closes_84 (by decide) ?_
    refine zz_iload dL_closes_86 rfl ?_
    refine zz_imul dL_closes_88 ?_
    refine zz_iload dL_closes_89 rfl ?_
    refine zz_iadd dL_closes_91 ?_
    refine zz_tope (y := nI (80 * a + i)) (by simp only [i80, i81, pk_mul, nI_add, nI_1]) ?_
    refine zz_dup2 dL_closes_92 rfl rfl ?_
    refine zl_qb dL_closes_93 (by omega) (by omega) ?_
    refine zz_aload_n dL_closes_94 rfl ?_
    refine zz_bipush (v := 80) dL_closes_95 (by decide) ?_
    refine zz_iload_n dL_closes_97 rfl ?_
    refine zz_imul dL_closes_98 ?_
    refine zz_iload dL_closes_99 rfl ?_
    refine zz_iadd dL_closes_101 ?_
    refine zz_tope (y := nI (80 * t + i)) (by simp only [i80, i81, pk_mul, nI_add, nI_1]) ?_
    refine zl_qb dL_closes_102 (by omega) (by omega) ?_
    refine zz_ior dL_closes_103 ?_
    refine zz_topz (b := wsh X (t + 1) a i) (by rw [e1, e2, zB_or, wsh_e, hat, Bool.true_and]) ?_
    refine zs_qb dL_closes_104 (by omega) (by omega) ?_
    refine zz_iinc (v := nI (i + 1)) dL_closes_105 rfl (nI_1 i) (by decide) ?_
    refine zz_goto (tgt := 77) dL_closes_108 (by decide) ?_
    refine zz_lvl (lv2 := [(5, .int (nI (i + 1))), (4, .int (nI a)), (3, .int (nI t)), (0, .ref w), (1, .int (nI n)), (2, .ref q)]) ⟨rfl, rfl, rfl, rfl, rfl, rfl, trivial⟩ ?_
    exact ih (i + 1) (by omega) _ (by rw [up_at]; exact grm_s hn ha hk hg) (fun p hpq => (up_ne _ _ hpq).trans (hp p hpq))
set_option maxHeartbeats 1000000 in
set_option maxRecDepth 20000 in
theorem wk_i {q w : Nat} (hw : 54 ≤ w ∧ w < 57) (hq : 54 ≤ q ∧ q < 57) (hwq : w ≠ q) (hn : n ≤ 80) {X : Nat → Nat → Bool} {MB0 : Nat → Nat → Bool} (h0 : gr n (MB0 w) X) {t : Nat} (ht : t < n) (rc rz : Nat) (K : ∀ MB, gr n (MB q) (wsh X (t + 1)) → (∀ p, p ≠ q → MB p = MB0 p) → zz_E mL_closes none 0 rc rz (fun o τ => ∃ MB2, gr n (MB2 q) (rchB X n) ∧ (∀ p, p ≠ q → MB2 p = MB0 p) ∧ o = .inl none ∧ τ = px El Lo Hi BL BH Od Ls (nI n) (pl MB2 rho nu T)) 117 [(3, .int (nI t)), (0, .ref w), (1, .int (nI n)), (2, .ref q)] [] (px El Lo Hi BL BH Od Ls (nI n) (pl MB rho nu T))) : ∀ (m i : Nat), i + m = n → ∀ MB, grm n (MB q) (wsh X t) (wsh X (t + 1)) i 0 → (∀ p, p ≠ q → MB p = MB0 p) → zz_E mL_closes none 0 rc rz (fun o τ => ∃ MB2, gr n (MB2 q) (rchB X n) ∧ (∀ p, p ≠ q → MB2 p = MB0 p) ∧ o = .inl none ∧ τ = px El Lo Hi BL BH Od Ls (nI n) (pl MB2 rho nu T)) 56 [(4, .int (nI i)), (3, .int (nI t)), (0, .ref w), (1, .int (nI n)), (2, .ref q)] [] (px El Lo Hi BL BH Od Ls (nI n) (pl MB rho nu T)) := by
  intro m
  induction m with
  | zero =>
    intro i hi MB hg hp
    have hk : n = i := by omega
    subst hk
    refine zz_iload dL_closes_56 rfl ?_
    refine zz_iload_n dL_closes_58 rfl ?_
    refine zz_icmp_ge (tgt := 117) dL_closes_59 (by decide) (fun _ => ?_) (fun h => absurd (nI_le (Nat.le_refl _) (by omega)) h)
    refine zz_lvl (lv2 := [(3, .int (nI t)), (0, .ref w), (1, .int (nI n)), (2, .ref q)]) ⟨rfl, rfl, rfl, rfl, trivial⟩ ?_
    exact K MB (grm_n hg) hp
  | succ m ih =>
    intro i hi MB hg hp
    have hk : i < n := by omega
    have e1 : MB q (80 * i + t) = wsh X t i t := by rw [hg i t hk ht, if_neg (by omega)]
    refine zz_iload dL_closes_56 rfl ?_
    refine zz_iload_n dL_closes_58 rfl ?_
    refine zz_icmp_ge (tgt := 117) dL_closes_59 (by decide) (fun h => absurd h (nI_ge (by omega) (by omega))) (fun _ => ?_)
    refine zz_aload_n dL_closes_62 rfl ?_
    refine zz_bipush (v := 80) dL_closes_63 (by decide) ?_
    refine zz_iload dL_closes_65 rfl ?_
    refine zz_imul dL_closes_67 ?_
    refine zz_iload_n dL_closes_68 rfl ?_
    refine zz_iadd dL_closes_69 ?_
    refine zz_tope (y := nI (80 * i + t)) (by simp only [i80, i81, pk_mul, nI_add, nI_1]) ?_
    refine zl_qb dL_closes_70 (by omega) (by omega) ?_
    rw [e1]
    refine zz_if_eq (tgt := 111) dL_closes_71 (by decide) (fun h71 => ?_) (fun h71 => ?_)
    · refine zz_iinc (v := nI (i + 1)) dL_closes_111 rfl (nI_1 i) (by decide) ?_
      refine zz_goto (tgt := 56) dL_closes_114 (by decide) ?_
      refine zz_lvl (lv2 := [(4, .int (nI (i + 1))), (3, .int (nI t)), (0, .ref w), (1, .int (nI n)), (2, .ref q)]) ⟨rfl, rfl, rfl, rfl, rfl, trivial⟩ ?_
      exact ih (i + 1) (by omega) MB (grm_k hg (fun c hc => by rw [wsh_e, zB_0.mp h71, Bool.false_and, Bool.or_false])) hp
    · refine zz_iconst (v := 0) dL_closes_74 (by decide) ?_
      refine zz_istore dL_closes_75 (by decide) ?_
      refine zz_lvl (lv2 := [(5, .int (nI 0)), (4, .int (nI i)), (3, .int (nI t)), (0, .ref w), (1, .int (nI n)), (2, .ref q)]) ⟨rfl, rfl, rfl, rfl, rfl, rfl, trivial⟩ ?_
      refine wk_k hw hq hwq hn h0 ht hk (zB_n.mp h71) _ _ (fun MB2 hg2 hp2 => ?_) n 0 (by omega) MB hg hp
      refine zz_iinc (v := nI (i + 1)) dL_closes_111 rfl (nI_1 i) (by decide) ?_
      refine zz_goto (tgt := 56) dL_closes_114 (by decide) ?_
      refine zz_lvl (lv2 := [(4, .int (nI (i + 1))), (3, .int (nI t)), (0, .ref w), (1, .int (nI n)), (2, .ref q)]) ⟨rfl, rfl, rfl, rfl, rfl, trivial⟩ ?_
      exact ih (i + 1) (by omega) MB2 hg2 hp2
set_option maxHeartbeats 1000000 in
set_option maxRecDepth 20000 in
theorem wk_t {q w : Nat} (hw : 54 ≤ w ∧ w < 57) (hq : 54 ≤ q ∧ q < 57) (hwq : w ≠ q) (hn : n ≤ 80) {X : Nat → Nat → Bool} {MB0 : Nat → Nat → Bool} (h0 : gr n (MB0 w) X) (rc rz : Nat) : ∀ (m i : Nat), i + m = n → ∀ MB, gr n (MB q) (wsh X i) → (∀ p, p ≠ q → MB p = MB0 p) → zz_E mL_closes none 0 rc rz (fun o τ => ∃ MB2, gr n (MB2 q) (rchB X n) ∧ (∀ p, p ≠ q → MB2 p = MB0 p) ∧ o = .inl none ∧ τ = px El Lo Hi BL BH Od Ls (nI n) (pl MB2 rho nu T)) 48 [(3, .int (nI i)), (0, .ref w), (1, .int (nI n)), (2, .ref q)] [] (px El Lo Hi BL BH Od Ls (nI n) (pl MB rho nu T)) := by
  intro m
  induction m with
  | zero =>
    intro i hi MB hg hp
    have hk : n = i := by omega
    subst hk
    refine zz_iload_n dL_closes_48 rfl ?_
    refine zz_iload_n dL_closes_49 rfl ?_
    refine zz_icmp_ge (tgt := 123) dL_closes_50 (by decide) (fun _ => ?_) (fun h => absurd (nI_le (Nat.le_refl _) (by omega)) h)
    refine zz_vret dL_closes_123 rfl ?_
    exact ⟨MB, gr_c hg (fun a c ha hc => wsh_n ha hc), hp, rfl, rfl⟩
  | succ m ih =>
    intro i hi MB hg hp
    have hk : i < n := by omega
    refine zz_iload_n dL_closes_48 rfl ?_
    refine zz_iload_n dL_closes_49 rfl ?_
    refine zz_icmp_ge (tgt := 123) dL_closes_50 (by decide) (fun h => absurd h (nI_ge (by omega) (by omega))) (fun _ => ?_)
    refine zz_iconst (v := 0) dL_closes_53 (by decide) ?_
    refine zz_istore dL_closes_54 (by decide) ?_
    refine zz_lvl (lv2 := [(4, .int (nI 0)), (3, .int (nI i)), (0, .ref w), (1, .int (nI n)), (2, .ref q)]) ⟨rfl, rfl, rfl, rfl, rfl, trivial⟩ ?_
    refine wk_i hw hq hwq hn h0 hk _ _ (fun MB2 hg2 hp2 => ?_) n 0 (by omega) MB (grm_0 hg) hp
    refine zz_iinc (v := nI (i + 1)) dL_closes_117 rfl (nI_1 i) (by decide) ?_
    refine zz_goto (tgt := 48) dL_closes_120 (by decide) ?_
    refine zz_lvl (lv2 := [(3, .int (nI (i + 1))), (0, .ref w), (1, .int (nI n)), (2, .ref q)]) ⟨rfl, rfl, rfl, rfl, trivial⟩ ?_
    exact ih (i + 1) (by omega) MB2 hg2 hp2
set_option maxHeartbeats 1000000 in
set_option maxRecDepth 20000 in
theorem c_closes {q w : Nat} (hw : 54 ≤ w ∧ w < 57) (hq : 54 ≤ q ∧ q < 57) (hwq : w ≠ q) (hn : n ≤ 80) {X : Nat → Nat → Bool} (h0 : gr n (MB w) X) : zz_C mL_closes 0 0 0 [.ref w, .int (nI n), .ref q] (px El Lo Hi BL BH Od Ls (nI n) (pl MB rho nu T)) (fun o τ => ∃ MB2, gr n (MB2 q) (rchB X n) ∧ (∀ p, p ≠ q → MB2 p = MB p) ∧ o = .inl none ∧ τ = px El Lo Hi BL BH Od Ls (nI n) (pl MB2 rho nu T)) := by
  · refine zz_start wPL_closes rfl rfl (Nat.le_of_ble_eq_true rfl) ?_
    refine zz_iconst (v := 0) dL_closes_0 (by decide) ?_
    refine zz_istore_n dL_closes_1 (by decide) ?_
    refine zz_lvl (lv2 := [(3, .int (nI 0)), (0, .ref w), (1, .int (nI n)), (2, .ref q)]) ⟨rfl, rfl, rfl, rfl, trivial⟩ ?_
    refine cp_i hw hq hwq hn h0 _ _ (fun MB2 hg2 hp2 => ?_) n 0 (by omega) MB (grp_0 n _ _) (fun _ _ => rfl)
    refine zz_iconst (v := 0) dL_closes_46 (by decide) ?_
    refine zz_istore_n dL_closes_47 (by decide) ?_
    refine zz_lvl (lv2 := [(3, .int (nI 0)), (0, .ref w), (1, .int (nI n)), (2, .ref q)]) ⟨rfl, rfl, rfl, rfl, trivial⟩ ?_
    exact wk_t hw hq hwq hn h0 _ _ n 0 (by omega) MB2 hg2 hp2
end ZYC
