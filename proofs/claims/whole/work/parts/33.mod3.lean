section ZZM3
variable {MB : Nat → Nat → Bool} {MI : Nat → Nat → Int32} {n : Nat} {mt : Int32} {T : zz_St}
/-- places (a, b) of the relation r become G's, row by row, up to (i, k) -/
def gsc (r n i k x : Nat) : Bool := decide (6400 * r ≤ x) && (decide ((x - 6400 * r) / 80 < n) && (decide ((x - 6400 * r) % 80 < n) && (decide ((x - 6400 * r) / 80 < i) || (decide ((x - 6400 * r) / 80 = i) && decide ((x - 6400 * r) % 80 < k)))))
def gs (f : Nat → Bool) (r n i k : Nat) (G : Nat → Nat → Bool) : Nat → Bool := fun x => if gsc r n i k x = true then G ((x - 6400 * r) / 80) ((x - 6400 * r) % 80) else f x
theorem gsc_t {r n i k x : Nat} : gsc r n i k x = true ↔ 6400 * r ≤ x ∧ (x - 6400 * r) / 80 < n ∧ (x - 6400 * r) % 80 < n ∧ ((x - 6400 * r) / 80 < i ∨ ((x - 6400 * r) / 80 = i ∧ (x - 6400 * r) % 80 < k)) := by
  unfold gsc
  simp only [Bool.and_eq_true, Bool.or_eq_true, decide_eq_true_eq]
theorem gs_0 (f : Nat → Bool) (r n : Nat) (G : Nat → Nat → Bool) : gs f r n 0 0 G = f := by
  funext x; unfold gs
  rw [if_neg]
  rw [gsc_t]
  rintro ⟨-, -, -, h | ⟨-, h⟩⟩
  · exact Nat.not_lt_zero _ h
  · exact Nat.not_lt_zero _ h
theorem gsc_row {r n i x : Nat} : gsc r n i n x = true ↔ gsc r n (i + 1) 0 x = true := by
  rw [gsc_t, gsc_t]
  constructor
  · rintro ⟨h1, h2, h3, h | ⟨h, -⟩⟩
    · exact ⟨h1, h2, h3, Or.inl (Nat.lt_succ_of_lt h)⟩
    · exact ⟨h1, h2, h3, Or.inl (by rw [h]; exact Nat.lt_succ_self i)⟩
  · rintro ⟨h1, h2, h3, h | ⟨-, h⟩⟩
    · rcases Nat.lt_or_ge ((x - 6400 * r) / 80) i with h4 | h4
      · exact ⟨h1, h2, h3, Or.inl h4⟩
      · exact ⟨h1, h2, h3, Or.inr ⟨Nat.le_antisymm (Nat.le_of_lt_succ h) h4, h3⟩⟩
    · exact absurd h (Nat.not_lt_zero _)
theorem gs_row (f : Nat → Bool) (r n i : Nat) (G : Nat → Nat → Bool) : gs f r n i n G = gs f r n (i + 1) 0 G := by
  funext x
  unfold gs
  by_cases h : gsc r n i n x = true
  · rw [if_pos h, if_pos (gsc_row.mp h)]
  · rw [if_neg h, if_neg (fun q => h (gsc_row.mpr q))]
theorem gs_q {r i k : Nat} (hk : k < 80) : (6400 * r + 80 * i + k - 6400 * r) / 80 = i ∧ (6400 * r + 80 * i + k - 6400 * r) % 80 = k := by
  rw [Nat.add_assoc, Nat.add_sub_cancel_left]
  exact ⟨by rw [Nat.mul_add_div (by decide), Nat.div_eq_of_lt hk, Nat.add_zero], by rw [Nat.mul_add_mod, Nat.mod_eq_of_lt hk]⟩
theorem gs_x {r x : Nat} (h : 6400 * r ≤ x) : x = 6400 * r + 80 * ((x - 6400 * r) / 80) + (x - 6400 * r) % 80 := by
  have := Nat.div_add_mod (x - 6400 * r) 80
  omega
theorem gs_s {f : Nat → Bool} {r n i k : Nat} {G : Nat → Nat → Bool} (hn : n ≤ 80) (hi : i < n) (hk : k < n) : va_up (gs f r n i k G) (6400 * r + 80 * i + k) (G i k) = gs f r n i (k + 1) G := by
  funext x
  have hq := gs_q (r := r) (i := i) (k := k) (by omega)
  unfold va_up
  by_cases e : x = 6400 * r + 80 * i + k
  · rw [if_pos e, e]
    unfold gs
    have hc : gsc r n i (k + 1) (6400 * r + 80 * i + k) = true := by
      rw [gsc_t, hq.1, hq.2]
      exact ⟨by omega, hi, hk, Or.inr ⟨rfl, Nat.lt_succ_self k⟩⟩
    rw [if_pos hc, hq.1, hq.2]
  · rw [if_neg e]
    unfold gs
    by_cases h : gsc r n i k x = true
    · have h2 : gsc r n i (k + 1) x = true := by
        rw [gsc_t] at h ⊢
        obtain ⟨h1, h2, h3, h4⟩ := h
        exact ⟨h1, h2, h3, h4.imp id (fun q => ⟨q.1, Nat.lt_succ_of_lt q.2⟩)⟩
      rw [if_pos h, if_pos h2]
    · have h2 : ¬ gsc r n i (k + 1) x = true := by
        intro h3
        rw [gsc_t] at h h3
        obtain ⟨h1, h2, h4, h5 | ⟨h5, h6⟩⟩ := h3
        · exact h ⟨h1, h2, h4, Or.inl h5⟩
        · rcases Nat.lt_or_ge ((x - 6400 * r) % 80) k with h7 | h7
          · exact h ⟨h1, h2, h4, Or.inr ⟨h5, h7⟩⟩
          · have h8 : (x - 6400 * r) % 80 = k := Nat.le_antisymm (Nat.le_of_lt_succ h6) h7
            have h9 := gs_x h1
            rw [h5, h8] at h9
            exact e h9
      rw [if_neg h, if_neg h2]
theorem gs_at {f : Nat → Bool} {r n i k : Nat} {G : Nat → Nat → Bool} (hn : n ≤ 80) (hk : k < n) : gs f r n i k G (6400 * r + 80 * i + k) = f (6400 * r + 80 * i + k) := by
  have hq := gs_q (r := r) (i := i) (k := k) (by omega)
  unfold gs
  rw [if_neg]
  rw [gsc_t, hq.1, hq.2]
  rintro ⟨-, -, -, h | ⟨-, h⟩⟩
  · exact Nat.lt_irrefl _ h
  · exact Nat.lt_irrefl _ h
theorem gs_get {f : Nat → Bool} {r n a b : Nat} {G : Nat → Nat → Bool} (hn : n ≤ 80) (ha : a < n) (hb : b < n) : gs f r n n 0 G (6400 * r + 80 * a + b) = G a b := by
  have hq := gs_q (r := r) (i := a) (k := b) (by omega)
  unfold gs
  have hc : gsc r n n 0 (6400 * r + 80 * a + b) = true := by
    rw [gsc_t, hq.1, hq.2]
    exact ⟨by omega, ha, hb, Or.inl ha⟩
  rw [if_pos hc, hq.1, hq.2]
theorem gs_no {f : Nat → Bool} {r r2 n a b : Nat} {G : Nat → Nat → Bool} (hn : n ≤ 80) (ha : a < 80) (hb : b < 80) (h : ¬ (r2 = r ∧ a < n ∧ b < n)) : gs f r n n 0 G (6400 * r2 + 80 * a + b) = f (6400 * r2 + 80 * a + b) := by
  unfold gs
  rw [if_neg]
  rw [gsc_t]
  rintro ⟨h1, h2, h3, -⟩
  have h9 := gs_x h1
  generalize (6400 * r2 + 80 * a + b - 6400 * r) / 80 = q at h2 h9
  generalize (6400 * r2 + 80 * a + b - 6400 * r) % 80 = m at h3 h9
  have h4 : r2 = r := by omega
  subst h4
  have h5 : a = q := by omega
  subst h5
  exact h ⟨rfl, h2, by omega⟩
theorem gs0_s {f : Nat → Bool} {n i k : Nat} {G : Nat → Nat → Bool} (hn : n ≤ 80) (hi : i < n) (hk : k < n) : va_up (gs f 0 n i k G) (80 * i + k) (G i k) = gs f 0 n i (k + 1) G := by
  have := gs_s (f := f) (r := 0) (G := G) hn hi hk
  rwa [Nat.mul_zero, Nat.zero_add] at this
theorem gs0_get {f : Nat → Bool} {n a b : Nat} {G : Nat → Nat → Bool} (hn : n ≤ 80) (ha : a < n) (hb : b < n) : gs f 0 n n 0 G (80 * a + b) = G a b := by
  have := gs_get (f := f) (r := 0) (G := G) hn ha hb
  rwa [Nat.mul_zero, Nat.zero_add] at this
def anb (f : Nat → Bool) : Nat → Bool
  | 0 => false
  | k + 1 => anb f k || f k
theorem anb_t {f : Nat → Bool} : ∀ {n : Nat}, anb f n = true ↔ ∃ k, k < n ∧ f k = true
  | 0 => ⟨fun h => (by cases h), fun ⟨k, h, _⟩ => absurd h (Nat.not_lt_zero k)⟩
  | n + 1 => by
    show (anb f n || f n) = true ↔ _
    rw [Bool.or_eq_true, anb_t]
    constructor
    · rintro (⟨k, h1, h2⟩ | h)
      · exact ⟨k, by omega, h2⟩
      · exact ⟨n, by omega, h⟩
    · rintro ⟨k, h1, h2⟩
      by_cases e : k = n
      · subst e; exact Or.inr h2
      · exact Or.inl ⟨k, by omega, h2⟩
theorem anb_m {f : Nat → Bool} {i n : Nat} (hi : i ≤ n) (h : anb f i = true) : anb f n = true := by
  obtain ⟨k, h1, h2⟩ := anb_t.mp h
  exact anb_t.mpr ⟨k, by omega, h2⟩
theorem anb_s {f : Nat → Bool} {i : Nat} (h : anb f i = false) : anb f (i + 1) = f i := by
  show (anb f i || f i) = f i
  rw [h, Bool.false_or]
/-- composed -/
def cmG (f : Nat → Bool) (a b n i k : Nat) : Bool := anb (fun j => f (6400 * a + 80 * i + j) && f (6400 * b + 80 * j + k)) n
set_option maxHeartbeats 1000000 in
set_option maxRecDepth 20000 in
theorem ml_laysI {Q : zz_Q} {r : Nat} (hr : r < 4) (hn : n ≤ 80) {a : Nat} (ha : a < n) (K : zz_E mX5_lays none 4 0 0 Q 48 [(3, .int (nI n)), (2, .int (nI a)), (0, .ref 54), (1, .int (nI r))] [] (pm (va_up MB 55 (gs (MB 55) r n a n (fun a b => MB 57 (80 * a + b)))) MI (nI n) mt T)) : ∀ (m i : Nat), i + m = n → zz_E mX5_lays none 4 0 0 (Q) 12 [(3, .int (nI i)), (2, .int (nI a)), (0, .ref 54), (1, .int (nI r))] [] (pm (va_up MB 55 (gs (MB 55) r n a i (fun a b => MB 57 (80 * a + b)))) MI (nI n) mt T) := by
  intro m
  induction m with
  | zero =>
    intro i hi
    have hi : i = n := by omega
    subst hi
    refine zz_iload_n dX5_lays_12 rfl ?_
    refine zz_aload_n dX5_lays_13 rfl ?_
    refine zz_get (ci := 5) (j := 2) zz_inX5 rfl zw_f_X5_16 rfl (by decide) dX5_lays_14 (by omega) pm_o rfl ?_
    refine zz_icmp_ge (tgt := 48) dX5_lays_17 (by decide) (fun _ => ?_) (fun h => absurd (nI_le (by omega) (by omega)) h)
    exact K
  | succ m ih =>
    intro i hi
    refine zz_iload_n dX5_lays_12 rfl ?_
    refine zz_aload_n dX5_lays_13 rfl ?_
    refine zz_get (ci := 5) (j := 2) zz_inX5 rfl zw_f_X5_16 rfl (by decide) dX5_lays_14 (by omega) pm_o rfl ?_
    refine zz_icmp_ge (tgt := 48) dX5_lays_17 (by decide) (fun h => absurd h (nI_ge (by omega) (by omega))) (fun _ => ?_)
    refine zz_aload_n dX5_lays_20 rfl ?_
    refine zz_get (ci := 5) (j := 0) zz_inX5 rfl zw_f_X5_7 rfl (by decide) dX5_lays_21 (by omega) pm_o rfl ?_
    refine zz_iload_n dX5_lays_24 rfl ?_
    refine zz_iload_n dX5_lays_25 rfl ?_
    refine zz_iload_n dX5_lays_26 rfl ?_
    refine zz_callS1 (m_place r a i) dX5_lays_27 zw_m_X5_62 wYX5_place wDX5_place rfl (Nat.le_of_ble_eq_true rfl) (by decide) rfl ?_
    refine zz_aload_n dX5_lays_30 rfl ?_
    refine zz_get (ci := 5) (j := 4) zz_inX5 rfl zw_f_X5_20 rfl (by decide) dX5_lays_31 (by omega) pm_o rfl ?_
    refine zz_bipush (v := 80) dX5_lays_34 (by decide) ?_
    refine zz_iload_n dX5_lays_36 rfl ?_
    refine zz_imul dX5_lays_37 ?_
    refine zz_iload_n dX5_lays_38 rfl ?_
    refine zz_iadd dX5_lays_39 ?_
    refine zz_tope (y := nI (80 * a + i)) (by simp only [i80, i6400, pk_mul, nI_add, nI_1]) ?_
    refine zl_mb dX5_lays_40 (by omega) (by simp only [ml55, ml56, ml57, ml58, ml59, ml60, ml61]; omega) (by simp only [ml55, ml56, ml57, ml58, ml59, ml60, ml61]; omega) ?_
    refine zs_mb dX5_lays_41 (by omega) (by simp only [ml55, ml56, ml57, ml58, ml59, ml60, ml61]; omega) (by simp only [ml55, ml56, ml57, ml58, ml59, ml60, ml61]; omega) ?_
    refine zz_iinc (v := nI (i + 1)) dX5_lays_42 rfl (nI_1 i) (by decide) ?_
    refine zz_goto (tgt := 12) dX5_lays_45 (by decide) ?_
    have h9 := ih (i + 1) (by omega)
    rw [← gs_s hn ha (show i < n by omega)] at h9
    simp only [up_at, up_up, up_ne _ _ (show (57 : Nat) ≠ 55 by decide)]
    exact h9
set_option maxHeartbeats 1000000 in
set_option maxRecDepth 20000 in
theorem ml_laysO {r : Nat} (hr : r < 4) (hn : n ≤ 80) : ∀ (m i : Nat), i + m = n → zz_E mX5_lays none 4 0 0 (fun o τ => o = .inl (some (.int (nI (sm (fun j => cnt (fun k => gs (MB 55) r n n 0 (fun a b => MB 57 (80 * a + b)) (6400 * r + 80 * j + k)) n) n)))) ∧ τ = pm (va_up MB 55 (gs (MB 55) r n n 0 (fun a b => MB 57 (80 * a + b)))) MI (nI n) mt T) 2 [(2, .int (nI i)), (0, .ref 54), (1, .int (nI r))] [] (pm (va_up MB 55 (gs (MB 55) r n i 0 (fun a b => MB 57 (80 * a + b)))) MI (nI n) mt T) := by
  intro m
  induction m with
  | zero =>
    intro i hi
    have hi : i = n := by omega
    subst hi
    refine zz_iload_n dX5_lays_2 rfl ?_
    refine zz_aload_n dX5_lays_3 rfl ?_
    refine zz_get (ci := 5) (j := 2) zz_inX5 rfl zw_f_X5_16 rfl (by decide) dX5_lays_4 (by omega) pm_o rfl ?_
    refine zz_icmp_ge (tgt := 54) dX5_lays_7 (by decide) (fun _ => ?_) (fun h => absurd (nI_le (by omega) (by omega)) h)
    refine zz_aload_n dX5_lays_54 rfl ?_
    refine zz_iload_n dX5_lays_55 rfl ?_
    refine zz_callV1 (ci := 5) (m_pairs hr hn) dX5_lays_56 zw_m_X5_73 wYX5_pairs wDX5_pairs rfl (by omega) pm_o rfl (Nat.le_of_ble_eq_true rfl) (by decide) rfl ?_
    refine zz_iret dX5_lays_59 rfl ?_
    exact ⟨by simp only [up_at], rfl⟩
  | succ m ih =>
    intro i hi
    refine zz_iload_n dX5_lays_2 rfl ?_
    refine zz_aload_n dX5_lays_3 rfl ?_
    refine zz_get (ci := 5) (j := 2) zz_inX5 rfl zw_f_X5_16 rfl (by decide) dX5_lays_4 (by omega) pm_o rfl ?_
    refine zz_icmp_ge (tgt := 54) dX5_lays_7 (by decide) (fun h => absurd h (nI_ge (by omega) (by omega))) (fun _ => ?_)
    refine zz_iconst (v := 0) dX5_lays_10 (by decide) ?_
    refine zz_istore_n dX5_lays_11 (by decide) ?_
    refine ml_laysI hr hn (a := i) (by omega) ?_ n 0 (by omega)
    refine zz_iinc (v := nI (i + 1)) dX5_lays_48 rfl (nI_1 i) (by decide) ?_
    refine zz_goto (tgt := 2) dX5_lays_51 (by decide) ?_
    refine zz_lvs (lv2 := [(2, .int (nI (i + 1))), (0, .ref 54), (1, .int (nI r))]) (fun q hq => by simp only [List.mem_cons, List.not_mem_nil, or_false] at hq; rcases hq with rfl | rfl | rfl <;> simp [zz_up1, zz_up2, Value.category]) ?_
    have h9 := ih (i + 1) (by omega)
    rw [← gs_row] at h9
    exact h9
set_option maxHeartbeats 1000000 in
set_option maxRecDepth 20000 in
theorem m_lays {r : Nat} (hr : r < 4) (hn : n ≤ 80) : zz_Dt mX5_lays 4 0 0 [.ref 54, .int (nI r)] (pm MB MI (nI n) mt T) (.inl (some (.int (nI (sm (fun j => cnt (fun k => gs (MB 55) r n n 0 (fun a b => MB 57 (80 * a + b)) (6400 * r + 80 * j + k)) n) n))))) (pm (va_up MB 55 (gs (MB 55) r n n 0 (fun a b => MB 57 (80 * a + b)))) MI (nI n) mt T) := by
  refine zz_start wPX5_lays rfl rfl (Nat.le_of_ble_eq_true rfl) ?_
  refine zz_iconst (v := 0) dX5_lays_0 (by decide) ?_
  refine zz_istore_n dX5_lays_1 (by decide) ?_
  have h9 := ml_laysO (MB := MB) (MI := MI) (mt := mt) (T := T) hr hn n 0 (by omega)
  rw [gs_0, up_self] at h9
  exact h9
set_option maxHeartbeats 1000000 in
set_option maxRecDepth 20000 in
theorem ml_cmJ {Q : zz_Q} {a b : Nat} (ha : a < 4) (hb : b < 4) (hn : n ≤ 80) {x y : Nat} (hx : x < n) (hy : y < n) (S : Nat → Bool) (K : zz_E mX5_composes none 2 0 0 Q 78 [(5, .int (zB (cmG (MB 55) a b n x y))), (4, .int (nI y)), (3, .int (nI x)), (0, .ref 54), (1, .int (nI a)), (2, .int (nI b))] [] (pm (va_up MB 57 S) MI (nI n) mt T)) : ∀ (m i : Nat), i + m = n → zz_E mX5_composes none 2 0 0 (Q) 28 [(6, .int (nI i)), (5, .int (zB (anb (fun j => MB 55 (6400 * a + 80 * x + j) && MB 55 (6400 * b + 80 * j + y)) i))), (4, .int (nI y)), (3, .int (nI x)), (0, .ref 54), (1, .int (nI a)), (2, .int (nI b))] [] (pm (va_up MB 57 S) MI (nI n) mt T) := by
  intro m
  induction m with
  | zero =>
    intro i hi
    have hi : n = i := by omega
    subst hi
    refine zz_iload dX5_composes_28 rfl ?_
    refine zz_aload_n dX5_composes_30 rfl ?_
    refine zz_get (ci := 5) (j := 2) zz_inX5 rfl zw_f_X5_16 rfl (by decide) dX5_composes_31 (by omega) pm_o rfl ?_
    refine zz_icmp_ge (tgt := 78) dX5_composes_34 (by decide) (fun _ => ?_) (fun h => absurd (nI_le (by omega) (by omega)) h)
    refine zz_lvs (lv2 := [(5, .int (zB (cmG (MB 55) a b n x y))), (4, .int (nI y)), (3, .int (nI x)), (0, .ref 54), (1, .int (nI a)), (2, .int (nI b))]) (fun q hq => by simp only [List.mem_cons, List.not_mem_nil, or_false] at hq; rcases hq with rfl | rfl | rfl | rfl | rfl | rfl <;> simp [zz_up1, zz_up2, Value.category, cmG]) ?_
    exact K
  | succ m ih =>
    intro i hi
    refine zz_iload dX5_composes_28 rfl ?_
    refine zz_aload_n dX5_composes_30 rfl ?_
    refine zz_get (ci := 5) (j := 2) zz_inX5 rfl zw_f_X5_16 rfl (by decide) dX5_composes_31 (by omega) pm_o rfl ?_
    refine zz_icmp_ge (tgt := 78) dX5_composes_34 (by decide) (fun h => absurd h (nI_ge (by omega) (by omega))) (fun _ => ?_)
    refine zz_iload dX5_composes_37 rfl ?_
    refine zz_if_ne (tgt := 78) dX5_composes_39 (by decide) (fun h39 => ?_) (fun h39 => ?_)
    · have e9 : cmG (MB 55) a b n x y = anb (fun j => MB 55 (6400 * a + 80 * x + j) && MB 55 (6400 * b + 80 * j + y)) i := (anb_m (show i ≤ n by omega) (zB_n.mp h39)).trans (zB_n.mp h39).symm
      rw [e9] at K
      refine zz_lvs (lv2 := [(5, .int (zB (anb (fun j => MB 55 (6400 * a + 80 * x + j) && MB 55 (6400 * b + 80 * j + y)) i))), (4, .int (nI y)), (3, .int (nI x)), (0, .ref 54), (1, .int (nI a)), (2, .int (nI b))]) (fun q hq => by simp only [List.mem_cons, List.not_mem_nil, or_false] at hq; rcases hq with rfl | rfl | rfl | rfl | rfl | rfl <;> simp [zz_up1, zz_up2, Value.category]) ?_
      exact K
    · refine zz_aload_n dX5_composes_42 rfl ?_
      refine zz_iload_n dX5_composes_43 rfl ?_
      refine zz_iload_n dX5_composes_44 rfl ?_
      refine zz_iload dX5_composes_45 rfl ?_
      refine zz_callV1 (ci := 5) (m_leads ha (show x < 80 by omega) (show i < 80 by omega)) dX5_composes_47 zw_m_X5_66 wYX5_leads wDX5_leads rfl (by omega) pm_o rfl (Nat.le_of_ble_eq_true rfl) (by decide) rfl ?_
      rw [up_ne _ _ (show (55 : Nat) ≠ 57 by decide)]
      refine zz_if_eq (tgt := 69) dX5_composes_50 (by decide) (fun h50 => ?_) (fun h50 => ?_)
      · refine zz_iconst (v := 0) dX5_composes_69 (by decide) ?_
        refine zz_istore dX5_composes_70 (by decide) ?_
        refine zz_iinc (v := nI (i + 1)) dX5_composes_72 rfl (nI_1 i) (by decide) ?_
        refine zz_goto (tgt := 28) dX5_composes_75 (by decide) ?_
        have h9 := ih (i + 1) (by omega)
        rw [anb_s (zB_0.mp h39)] at h9
        first
          | (simp only [zB_0.mp h50, Bool.false_and] at h9; exact h9)
          | (simp only [zB_n.mp h50, zB_0.mp h62, Bool.true_and] at h9; exact h9)
          | (simp only [zB_n.mp h50, zB_n.mp h62, Bool.true_and] at h9; exact h9)
      · refine zz_aload_n dX5_composes_53 rfl ?_
        refine zz_iload_n dX5_composes_54 rfl ?_
        refine zz_iload dX5_composes_55 rfl ?_
        refine zz_iload dX5_composes_57 rfl ?_
        refine zz_callV1 (ci := 5) (m_leads hb (show i < 80 by omega) (show y < 80 by omega)) dX5_composes_59 zw_m_X5_66 wYX5_leads wDX5_leads rfl (by omega) pm_o rfl (Nat.le_of_ble_eq_true rfl) (by decide) rfl ?_
        rw [up_ne _ _ (show (55 : Nat) ≠ 57 by decide)]
        refine zz_if_eq (tgt := 69) dX5_composes_62 (by decide) (fun h62 => ?_) (fun h62 => ?_)
        · refine zz_iconst (v := 0) dX5_composes_69 (by decide) ?_
          refine zz_istore dX5_composes_70 (by decide) ?_
          refine zz_iinc (v := nI (i + 1)) dX5_composes_72 rfl (nI_1 i) (by decide) ?_
          refine zz_goto (tgt := 28) dX5_composes_75 (by decide) ?_
          have h9 := ih (i + 1) (by omega)
          rw [anb_s (zB_0.mp h39)] at h9
          first
            | (simp only [zB_0.mp h50, Bool.false_and] at h9; exact h9)
            | (simp only [zB_n.mp h50, zB_0.mp h62, Bool.true_and] at h9; exact h9)
            | (simp only [zB_n.mp h50, zB_n.mp h62, Bool.true_and] at h9; exact h9)
        · refine zz_iconst (v := 1) dX5_composes_65 (by decide) ?_
          refine zz_goto (tgt := 70) dX5_composes_66 (by decide) ?_
          refine zz_istore dX5_composes_70 (by decide) ?_
          refine zz_iinc (v := nI (i + 1)) dX5_composes_72 rfl (nI_1 i) (by decide) ?_
          refine zz_goto (tgt := 28) dX5_composes_75 (by decide) ?_
          have h9 := ih (i + 1) (by omega)
          rw [anb_s (zB_0.mp h39)] at h9
          first
            | (simp only [zB_0.mp h50, Bool.false_and] at h9; exact h9)
            | (simp only [zB_n.mp h50, zB_0.mp h62, Bool.true_and] at h9; exact h9)
            | (simp only [zB_n.mp h50, zB_n.mp h62, Bool.true_and] at h9; exact h9)
set_option maxHeartbeats 1000000 in
set_option maxRecDepth 20000 in
theorem ml_cmI {Q : zz_Q} {a b : Nat} (ha : a < 4) (hb : b < 4) (hn : n ≤ 80) {x : Nat} (hx : x < n) (K : zz_E mX5_composes none 2 0 0 Q 98 [(4, .int (nI n)), (3, .int (nI x)), (0, .ref 54), (1, .int (nI a)), (2, .int (nI b))] [] (pm (va_up MB 57 (gs (MB 57) 0 n x n (cmG (MB 55) a b n))) MI (nI n) mt T)) : ∀ (m i : Nat), i + m = n → zz_E mX5_composes none 2 0 0 (Q) 13 [(4, .int (nI i)), (3, .int (nI x)), (0, .ref 54), (1, .int (nI a)), (2, .int (nI b))] [] (pm (va_up MB 57 (gs (MB 57) 0 n x i (cmG (MB 55) a b n))) MI (nI n) mt T) := by
  intro m
  induction m with
  | zero =>
    intro i hi
    have hi : i = n := by omega
    subst hi
    refine zz_iload dX5_composes_13 rfl ?_
    refine zz_aload_n dX5_composes_15 rfl ?_
    refine zz_get (ci := 5) (j := 2) zz_inX5 rfl zw_f_X5_16 rfl (by decide) dX5_composes_16 (by omega) pm_o rfl ?_
    refine zz_icmp_ge (tgt := 98) dX5_composes_19 (by decide) (fun _ => ?_) (fun h => absurd (nI_le (by omega) (by omega)) h)
    exact K
  | succ m ih =>
    intro i hi
    refine zz_iload dX5_composes_13 rfl ?_
    refine zz_aload_n dX5_composes_15 rfl ?_
    refine zz_get (ci := 5) (j := 2) zz_inX5 rfl zw_f_X5_16 rfl (by decide) dX5_composes_16 (by omega) pm_o rfl ?_
    refine zz_icmp_ge (tgt := 98) dX5_composes_19 (by decide) (fun h => absurd h (nI_ge (by omega) (by omega))) (fun _ => ?_)
    refine zz_iconst (v := 0) dX5_composes_22 (by decide) ?_
    refine zz_istore dX5_composes_23 (by decide) ?_
    refine zz_iconst (v := 0) dX5_composes_25 (by decide) ?_
    refine zz_istore dX5_composes_26 (by decide) ?_
    refine ml_cmJ ha hb hn hx (y := i) (by omega) _ ?_ n 0 (by omega)
    refine zz_aload_n dX5_composes_78 rfl ?_
    refine zz_get (ci := 5) (j := 4) zz_inX5 rfl zw_f_X5_20 rfl (by decide) dX5_composes_79 (by omega) pm_o rfl ?_
    refine zz_bipush (v := 80) dX5_composes_82 (by decide) ?_
    refine zz_iload_n dX5_composes_84 rfl ?_
    refine zz_imul dX5_composes_85 ?_
    refine zz_iload dX5_composes_86 rfl ?_
    refine zz_iadd dX5_composes_88 ?_
    refine zz_tope (y := nI (80 * x + i)) (by simp only [i80, i6400, pk_mul, nI_add, nI_1]) ?_
    refine zz_iload dX5_composes_89 rfl ?_
    refine zs_mb dX5_composes_91 (by omega) (by simp only [ml55, ml56, ml57, ml58, ml59, ml60, ml61]; omega) (by simp only [ml55, ml56, ml57, ml58, ml59, ml60, ml61]; omega) ?_
    refine zz_iinc (v := nI (i + 1)) dX5_composes_92 rfl (nI_1 i) (by decide) ?_
    refine zz_goto (tgt := 13) dX5_composes_95 (by decide) ?_
    refine zz_lvs (lv2 := [(4, .int (nI (i + 1))), (3, .int (nI x)), (0, .ref 54), (1, .int (nI a)), (2, .int (nI b))]) (fun q hq => by simp only [List.mem_cons, List.not_mem_nil, or_false] at hq; rcases hq with rfl | rfl | rfl | rfl | rfl <;> simp [zz_up1, zz_up2, Value.category]) ?_
    have h9 := ih (i + 1) (by omega)
    rw [← gs0_s hn hx (show i < n by omega)] at h9
    simp only [up_at, up_up]
    exact h9
set_option maxHeartbeats 1000000 in
set_option maxRecDepth 20000 in
theorem ml_cmO {a b : Nat} (ha : a < 4) (hb : b < 4) (hn : n ≤ 80) : ∀ (m i : Nat), i + m = n → zz_E mX5_composes none 2 0 0 (fun o τ => o = .inl none ∧ τ = pm (va_up MB 57 (gs (MB 57) 0 n n 0 (cmG (MB 55) a b n))) MI (nI n) mt T) 2 [(3, .int (nI i)), (0, .ref 54), (1, .int (nI a)), (2, .int (nI b))] [] (pm (va_up MB 57 (gs (MB 57) 0 n i 0 (cmG (MB 55) a b n))) MI (nI n) mt T) := by
  intro m
  induction m with
  | zero =>
    intro i hi
    have hi : i = n := by omega
    subst hi
    refine zz_iload_n dX5_composes_2 rfl ?_
    refine zz_aload_n dX5_composes_3 rfl ?_
    refine zz_get (ci := 5) (j := 2) zz_inX5 rfl zw_f_X5_16 rfl (by decide) dX5_composes_4 (by omega) pm_o rfl ?_
    refine zz_icmp_ge (tgt := 104) dX5_composes_7 (by decide) (fun _ => ?_) (fun h => absurd (nI_le (by omega) (by omega)) h)
    refine zz_vret dX5_composes_104 rfl ?_
    exact ⟨rfl, rfl⟩
  | succ m ih =>
    intro i hi
    refine zz_iload_n dX5_composes_2 rfl ?_
    refine zz_aload_n dX5_composes_3 rfl ?_
    refine zz_get (ci := 5) (j := 2) zz_inX5 rfl zw_f_X5_16 rfl (by decide) dX5_composes_4 (by omega) pm_o rfl ?_
    refine zz_icmp_ge (tgt := 104) dX5_composes_7 (by decide) (fun h => absurd h (nI_ge (by omega) (by omega))) (fun _ => ?_)
    refine zz_iconst (v := 0) dX5_composes_10 (by decide) ?_
    refine zz_istore dX5_composes_11 (by decide) ?_
    refine ml_cmI ha hb hn (x := i) (by omega) ?_ n 0 (by omega)
    refine zz_iinc (v := nI (i + 1)) dX5_composes_98 rfl (nI_1 i) (by decide) ?_
    refine zz_goto (tgt := 2) dX5_composes_101 (by decide) ?_
    refine zz_lvs (lv2 := [(3, .int (nI (i + 1))), (0, .ref 54), (1, .int (nI a)), (2, .int (nI b))]) (fun q hq => by simp only [List.mem_cons, List.not_mem_nil, or_false] at hq; rcases hq with rfl | rfl | rfl | rfl <;> simp [zz_up1, zz_up2, Value.category]) ?_
    have h9 := ih (i + 1) (by omega)
    rw [← gs_row] at h9
    exact h9
set_option maxHeartbeats 1000000 in
set_option maxRecDepth 20000 in
theorem m_composes {a b : Nat} (ha : a < 4) (hb : b < 4) (hn : n ≤ 80) : zz_Dt mX5_composes 2 0 0 [.ref 54, .int (nI a), .int (nI b)] (pm MB MI (nI n) mt T) (.inl none) (pm (va_up MB 57 (gs (MB 57) 0 n n 0 (cmG (MB 55) a b n))) MI (nI n) mt T) := by
  refine zz_start wPX5_composes rfl rfl (Nat.le_of_ble_eq_true rfl) ?_
  refine zz_iconst (v := 0) dX5_composes_0 (by decide) ?_
  refine zz_istore_n dX5_composes_1 (by decide) ?_
  have h9 := ml_cmO (MB := MB) (MI := MI) (mt := mt) (T := T) ha hb hn n 0 (by omega)
  rw [gs_0, up_self] at h9
  exact h9
theorem and_f3 {a b c : Bool} (h : (a && (b && c)) = false) : a = false ∨ (a = true ∧ b = false) ∨ (a = true ∧ b = true ∧ c = false) := by revert h; cases a <;> cases b <;> cases c <;> decide
set_option maxHeartbeats 1000000 in
set_option maxRecDepth 20000 in
theorem m_compose_v {a b r : Nat} (ha : a < 4) (hb : b < 4) (hr : r < 4) (hn : n ≤ 80) : zz_C mX5_compose 5 0 0 [.ref 54, .int (nI a), .int (nI b), .int (nI r)] (pm MB MI (nI n) mt T) (fun o τ => o = .inl (some (.int (nI (sm (fun j => cnt (fun k => gs (MB 55) r n n 0 (fun a0 b0 => gs (MB 57) 0 n n 0 (cmG (MB 55) a b n) (80 * a0 + b0)) (6400 * r + 80 * j + k)) n) n)))) ∧ τ = pm (va_up (va_up MB 57 (gs (MB 57) 0 n n 0 (cmG (MB 55) a b n))) 55 (gs (MB 55) r n n 0 (fun a0 b0 => gs (MB 57) 0 n n 0 (cmG (MB 55) a b n) (80 * a0 + b0)))) MI (nI n) 0 T) := by
  have e1 := isR_t ha
  have e2 := isR_t hb
  have e3 := isR_t hr
  · refine zz_start wPX5_compose rfl rfl (Nat.le_of_ble_eq_true rfl) ?_
    refine zz_iload_n dX5_compose_0 rfl ?_
    refine zz_callS1 (m_isR _) dX5_compose_1 zw_m_X5_55 wYX5_isRelation wDX5_isRelation rfl (Nat.le_of_ble_eq_true rfl) (by decide) rfl ?_
    refine zz_if_eq (tgt := 21) dX5_compose_4 (by decide) (fun q => absurd q (by rw [e1]; decide)) (fun _ => ?_)
    refine zz_iload_n dX5_compose_7 rfl ?_
    refine zz_callS1 (m_isR _) dX5_compose_8 zw_m_X5_55 wYX5_isRelation wDX5_isRelation rfl (Nat.le_of_ble_eq_true rfl) (by decide) rfl ?_
    refine zz_if_eq (tgt := 21) dX5_compose_11 (by decide) (fun q => absurd q (by rw [e2]; decide)) (fun _ => ?_)
    refine zz_iload_n dX5_compose_14 rfl ?_
    refine zz_callS1 (m_isR _) dX5_compose_15 zw_m_X5_55 wYX5_isRelation wDX5_isRelation rfl (Nat.le_of_ble_eq_true rfl) (by decide) rfl ?_
    refine zz_if_ne (tgt := 27) dX5_compose_18 (by decide) (fun _ => ?_) (fun q => absurd q (by rw [e3]; decide))
    refine zz_aload_n dX5_compose_27 rfl ?_
    refine zz_iload_n dX5_compose_28 rfl ?_
    refine zz_iload_n dX5_compose_29 rfl ?_
    refine zz_callV0 (ci := 5) (m_composes ha hb hn) dX5_compose_30 zw_m_X5_98 wYX5_composes wDX5_composes rfl (by omega) pm_o rfl (Nat.le_of_ble_eq_true rfl) (by decide) rfl ?_
    refine zz_aload_n dX5_compose_33 rfl ?_
    refine zz_aload_n dX5_compose_34 rfl ?_
    refine zz_iload_n dX5_compose_35 rfl ?_
    refine zz_callV1 (ci := 5) (m_lays hr hn) dX5_compose_36 zw_m_X5_102 wYX5_lays wDX5_lays rfl (by omega) pm_o rfl (Nat.le_of_ble_eq_true rfl) (by decide) rfl ?_
    refine zz_callV1 (ci := 5) (m_told _) dX5_compose_39 zw_m_X5_80 wYX5_told wDX5_told rfl (by omega) pm_o rfl (Nat.le_of_ble_eq_true rfl) (by decide) rfl ?_
    refine zz_iret dX5_compose_42 rfl ?_
    exact ⟨by simp only [up_at, up_ne _ _ (show (55 : Nat) ≠ 57 by decide)], by simp only [up_at, up_ne _ _ (show (55 : Nat) ≠ 57 by decide)]⟩
set_option maxHeartbeats 1000000 in
set_option maxRecDepth 20000 in
theorem m_compose_x {v w u : Int32} (h : (isR v && (isR w && isR u)) = false) : zz_C mX5_compose 5 0 0 [.ref 54, .int v, .int w, .int u] (pm MB MI (nI n) mt T) (fun o τ => o = .inl (some (.int 0)) ∧ τ = pm MB MI (nI n) 1 T) := by
  rcases and_f3 h with h1 | ⟨h1, h3⟩ | ⟨h1, h3, h4⟩
  · refine zz_start wPX5_compose rfl rfl (Nat.le_of_ble_eq_true rfl) ?_
    refine zz_iload_n dX5_compose_0 rfl ?_
    refine zz_callS1 (m_isR _) dX5_compose_1 zw_m_X5_55 wYX5_isRelation wDX5_isRelation rfl (Nat.le_of_ble_eq_true rfl) (by decide) rfl ?_
    refine zz_if_eq (tgt := 21) dX5_compose_4 (by decide) (fun _ => ?_) (fun q => absurd (by rw [h1]; rfl) q)
    refine zz_aload_n dX5_compose_21 rfl ?_
    refine zz_iconst (v := 1) dX5_compose_22 (by decide) ?_
    refine zz_callV1 (ci := 5) (m_refuse 1) dX5_compose_23 zw_m_X5_77 wYX5_refuse wDX5_refuse rfl (by omega) pm_o rfl (Nat.le_of_ble_eq_true rfl) (by decide) rfl ?_
    refine zz_iret dX5_compose_26 rfl ?_
    exact ⟨rfl, rfl⟩
  · refine zz_start wPX5_compose rfl rfl (Nat.le_of_ble_eq_true rfl) ?_
    refine zz_iload_n dX5_compose_0 rfl ?_
    refine zz_callS1 (m_isR _) dX5_compose_1 zw_m_X5_55 wYX5_isRelation wDX5_isRelation rfl (Nat.le_of_ble_eq_true rfl) (by decide) rfl ?_
    refine zz_if_eq (tgt := 21) dX5_compose_4 (by decide) (fun q => absurd q (by rw [h1]; decide)) (fun _ => ?_)
    refine zz_iload_n dX5_compose_7 rfl ?_
    refine zz_callS1 (m_isR _) dX5_compose_8 zw_m_X5_55 wYX5_isRelation wDX5_isRelation rfl (Nat.le_of_ble_eq_true rfl) (by decide) rfl ?_
    refine zz_if_eq (tgt := 21) dX5_compose_11 (by decide) (fun _ => ?_) (fun q => absurd (by rw [h3]; rfl) q)
    refine zz_aload_n dX5_compose_21 rfl ?_
    refine zz_iconst (v := 1) dX5_compose_22 (by decide) ?_
    refine zz_callV1 (ci := 5) (m_refuse 1) dX5_compose_23 zw_m_X5_77 wYX5_refuse wDX5_refuse rfl (by omega) pm_o rfl (Nat.le_of_ble_eq_true rfl) (by decide) rfl ?_
    refine zz_iret dX5_compose_26 rfl ?_
    exact ⟨rfl, rfl⟩
  · refine zz_start wPX5_compose rfl rfl (Nat.le_of_ble_eq_true rfl) ?_
    refine zz_iload_n dX5_compose_0 rfl ?_
    refine zz_callS1 (m_isR _) dX5_compose_1 zw_m_X5_55 wYX5_isRelation wDX5_isRelation rfl (Nat.le_of_ble_eq_true rfl) (by decide) rfl ?_
    refine zz_if_eq (tgt := 21) dX5_compose_4 (by decide) (fun q => absurd q (by rw [h1]; decide)) (fun _ => ?_)
    refine zz_iload_n dX5_compose_7 rfl ?_
    refine zz_callS1 (m_isR _) dX5_compose_8 zw_m_X5_55 wYX5_isRelation wDX5_isRelation rfl (Nat.le_of_ble_eq_true rfl) (by decide) rfl ?_
    refine zz_if_eq (tgt := 21) dX5_compose_11 (by decide) (fun q => absurd q (by rw [h3]; decide)) (fun _ => ?_)
    refine zz_iload_n dX5_compose_14 rfl ?_
    refine zz_callS1 (m_isR _) dX5_compose_15 zw_m_X5_55 wYX5_isRelation wDX5_isRelation rfl (Nat.le_of_ble_eq_true rfl) (by decide) rfl ?_
    refine zz_if_ne (tgt := 27) dX5_compose_18 (by decide) (fun q => absurd (by rw [h4]; rfl) q) (fun _ => ?_)
    refine zz_aload_n dX5_compose_21 rfl ?_
    refine zz_iconst (v := 1) dX5_compose_22 (by decide) ?_
    refine zz_callV1 (ci := 5) (m_refuse 1) dX5_compose_23 zw_m_X5_77 wYX5_refuse wDX5_refuse rfl (by omega) pm_o rfl (Nat.le_of_ble_eq_true rfl) (by decide) rfl ?_
    refine zz_iret dX5_compose_26 rfl ?_
    exact ⟨rfl, rfl⟩
end ZZM3
