section ZZM2
variable {MB : Nat → Nat → Bool} {MI : Nat → Nat → Int32} {n : Nat} {mt : Int32} {T : zz_St}
theorem isR_t {r : Nat} (h : r < 4) : isR (nI r) = true := isR_n r h
theorem and_t {a b : Bool} (h1 : a = true) (h2 : b = true) : (a && b) = true := by rw [h1, h2]; rfl
theorem and_f {a b : Bool} (h : (a && b) = false) : a = false ∨ (a = true ∧ b = false) := by revert h; cases a <;> cases b <;> decide
set_option maxHeartbeats 1000000 in
set_option maxRecDepth 20000 in
theorem m_set_v {r i k : Nat} (hr : r < 4) (hi : i < n) (hk : k < n) (hn : n ≤ 80) (b : Bool) : zz_C mX5_set 3 0 0 [.ref 54, .int (nI r), .int (nI i), .int (nI k), .int (zB b)] (pm MB MI (nI n) mt T) (fun o τ => o = .inl (some (.int (zB (MB 55 (6400 * r + 80 * i + k))))) ∧ τ = pm (va_up MB 55 (va_up (MB 55) (6400 * r + 80 * i + k) b)) MI (nI n) 0 T) := by
  have hRow : (isR (nI r) && isE n (nI i)) = true := and_t (isR_t hr) (isE_n hn hi)
  have hE : isE n (nI k) = true := isE_n hn hk
  · refine zz_start wPX5_set rfl rfl (Nat.le_of_ble_eq_true rfl) ?_
    refine zz_aload_n dX5_set_0 rfl ?_
    refine zz_iload_n dX5_set_1 rfl ?_
    refine zz_iload_n dX5_set_2 rfl ?_
    refine zz_callV1 (ci := 5) (m_isRow _ _) dX5_set_3 zw_m_X5_83 wYX5_isRow wDX5_isRow rfl (by omega) pm_o rfl (Nat.le_of_ble_eq_true rfl) (by decide) rfl ?_
    refine zz_if_eq (tgt := 17) dX5_set_6 (by decide) (fun q => absurd q (by rw [hRow]; decide)) (fun _ => ?_)
    refine zz_aload_n dX5_set_9 rfl ?_
    refine zz_iload_n dX5_set_10 rfl ?_
    refine zz_callV1 (ci := 5) (m_isE _) dX5_set_11 zw_m_X5_59 wYX5_isElement wDX5_isElement rfl (by omega) pm_o rfl (Nat.le_of_ble_eq_true rfl) (by decide) rfl ?_
    refine zz_if_ne (tgt := 23) dX5_set_14 (by decide) (fun _ => ?_) (fun q => absurd q (by rw [hE]; decide))
    refine zz_aload_n dX5_set_23 rfl ?_
    refine zz_iload_n dX5_set_24 rfl ?_
    refine zz_iload_n dX5_set_25 rfl ?_
    refine zz_iload_n dX5_set_26 rfl ?_
    refine zz_callV1 (ci := 5) (m_leads hr (show i < 80 by omega) (show k < 80 by omega)) dX5_set_27 zw_m_X5_66 wYX5_leads wDX5_leads rfl (by omega) pm_o rfl (Nat.le_of_ble_eq_true rfl) (by decide) rfl ?_
    refine zz_istore dX5_set_30 (by decide) ?_
    refine zz_aload_n dX5_set_32 rfl ?_
    refine zz_get (ci := 5) (j := 0) zz_inX5 rfl zw_f_X5_7 rfl (by decide) dX5_set_33 (by omega) pm_o rfl ?_
    refine zz_iload_n dX5_set_36 rfl ?_
    refine zz_iload_n dX5_set_37 rfl ?_
    refine zz_iload_n dX5_set_38 rfl ?_
    refine zz_callS1 (m_place r i k) dX5_set_39 zw_m_X5_62 wYX5_place wDX5_place rfl (Nat.le_of_ble_eq_true rfl) (by decide) rfl ?_
    refine zz_iload dX5_set_42 rfl ?_
    refine zs_mb dX5_set_44 (by omega) (by simp only [ml55, ml56, ml57, ml58, ml59, ml60, ml61]; omega) (by simp only [ml55, ml56, ml57, ml58, ml59, ml60, ml61]; omega) ?_
    refine zz_aload_n dX5_set_45 rfl ?_
    refine zz_iload dX5_set_46 rfl ?_
    refine zz_callV1 (ci := 5) (m_says _) dX5_set_48 zw_m_X5_90 wYX5_says wDX5_says rfl (by omega) pm_o rfl (Nat.le_of_ble_eq_true rfl) (by decide) rfl ?_
    refine zz_zret dX5_set_51 rfl (by first | rfl | exact zB_nar _) ?_
    exact ⟨rfl, rfl⟩
set_option maxHeartbeats 1000000 in
set_option maxRecDepth 20000 in
theorem m_set_x {v w u : Int32} (h : (isR v && isE n w && isE n u) = false) (b : Bool) : zz_C mX5_set 3 0 0 [.ref 54, .int v, .int w, .int u, .int (zB b)] (pm MB MI (nI n) mt T) (fun o τ => o = .inl (some (.int (zB false))) ∧ τ = pm MB MI (nI n) 1 T) := by
  rcases and_f h with h1 | ⟨h1, h2⟩
  · refine zz_start wPX5_set rfl rfl (Nat.le_of_ble_eq_true rfl) ?_
    refine zz_aload_n dX5_set_0 rfl ?_
    refine zz_iload_n dX5_set_1 rfl ?_
    refine zz_iload_n dX5_set_2 rfl ?_
    refine zz_callV1 (ci := 5) (m_isRow _ _) dX5_set_3 zw_m_X5_83 wYX5_isRow wDX5_isRow rfl (by omega) pm_o rfl (Nat.le_of_ble_eq_true rfl) (by decide) rfl ?_
    refine zz_if_eq (tgt := 17) dX5_set_6 (by decide) (fun _ => ?_) (fun q => absurd (by rw [h1]; rfl) q)
    refine zz_aload_n dX5_set_17 rfl ?_
    refine zz_iconst (v := 1) dX5_set_18 (by decide) ?_
    refine zz_callV1 (ci := 5) (m_denies 1) dX5_set_19 zw_m_X5_87 wYX5_denies wDX5_denies rfl (by omega) pm_o rfl (Nat.le_of_ble_eq_true rfl) (by decide) rfl ?_
    refine zz_zret dX5_set_22 rfl (by first | rfl | exact zB_nar _) ?_
    exact ⟨rfl, rfl⟩
  · refine zz_start wPX5_set rfl rfl (Nat.le_of_ble_eq_true rfl) ?_
    refine zz_aload_n dX5_set_0 rfl ?_
    refine zz_iload_n dX5_set_1 rfl ?_
    refine zz_iload_n dX5_set_2 rfl ?_
    refine zz_callV1 (ci := 5) (m_isRow _ _) dX5_set_3 zw_m_X5_83 wYX5_isRow wDX5_isRow rfl (by omega) pm_o rfl (Nat.le_of_ble_eq_true rfl) (by decide) rfl ?_
    refine zz_if_eq (tgt := 17) dX5_set_6 (by decide) (fun q => absurd q (by rw [h1]; decide)) (fun _ => ?_)
    refine zz_aload_n dX5_set_9 rfl ?_
    refine zz_iload_n dX5_set_10 rfl ?_
    refine zz_callV1 (ci := 5) (m_isE _) dX5_set_11 zw_m_X5_59 wYX5_isElement wDX5_isElement rfl (by omega) pm_o rfl (Nat.le_of_ble_eq_true rfl) (by decide) rfl ?_
    refine zz_if_ne (tgt := 23) dX5_set_14 (by decide) (fun q => absurd (by rw [h2]; rfl) q) (fun _ => ?_)
    refine zz_aload_n dX5_set_17 rfl ?_
    refine zz_iconst (v := 1) dX5_set_18 (by decide) ?_
    refine zz_callV1 (ci := 5) (m_denies 1) dX5_set_19 zw_m_X5_87 wYX5_denies wDX5_denies rfl (by omega) pm_o rfl (Nat.le_of_ble_eq_true rfl) (by decide) rfl ?_
    refine zz_zret dX5_set_22 rfl (by first | rfl | exact zB_nar _) ?_
    exact ⟨rfl, rfl⟩
/-- places lo .. hi of a row become b's -/
def rng (f : Nat → Bool) (o a b : Nat) (g : Nat → Bool) : Nat → Bool := fun x => if o + a ≤ x ∧ x < o + b then g x else f x
theorem rng_0 (f : Nat → Bool) (o a : Nat) (g : Nat → Bool) : rng f o a a g = f := by
  funext x; unfold rng; rw [if_neg (by omega)]
theorem rng_s (f : Nat → Bool) (o a b : Nat) (g : Nat → Bool) (h : a ≤ b) : va_up (rng f o a b g) (o + b) (g (o + b)) = rng f o a (b + 1) g := by
  funext x
  unfold va_up rng
  by_cases e : x = o + b
  · subst e; rw [if_pos rfl, if_pos (by omega)]
  · rw [if_neg e]
    by_cases e2 : o + a ≤ x ∧ x < o + b
    · rw [if_pos e2, if_pos (by omega)]
    · rw [if_neg e2, if_neg (by omega)]
theorem rng_at (f : Nat → Bool) (o a b : Nat) (g : Nat → Bool) : rng f o a b g (o + b) = f (o + b) := by
  unfold rng; rw [if_neg (by omega)]
set_option maxHeartbeats 1000000 in
set_option maxRecDepth 20000 in
theorem ml_setRange {r j : Nat} (hr : r < 4) (hj : j < n) (hn : n ≤ 80) {a e : Nat} (hae : a ≤ e) (hen : e ≤ n) (b : Bool) : ∀ (m i : Nat), i + m = e → a ≤ i → zz_E mX5_setRange none 3 0 0 (fun o τ => o = .inl (some (.int (nI (cnt (fun k => rng (MB 55) (6400 * r + 80 * j) a e (fun _ => b) (6400 * r + 80 * j + k)) n)))) ∧ τ = pm (va_up MB 55 (rng (MB 55) (6400 * r + 80 * j) a e (fun _ => b))) MI (nI n) 0 T) 28 [(6, .int (nI i)), (0, .ref 54), (1, .int (nI r)), (2, .int (nI j)), (3, .int (nI a)), (4, .int (nI e)), (5, .int (zB b))] [] (pm (va_up MB 55 (rng (MB 55) (6400 * r + 80 * j) a i (fun _ => b))) MI (nI n) mt T) := by
  intro m
  induction m with
  | zero =>
    intro i hi ha
    have hi : i = e := by omega
    subst hi
    refine zz_iload dX5_setRange_28 rfl ?_
    refine zz_iload dX5_setRange_30 rfl ?_
    refine zz_icmp_ge (tgt := 55) dX5_setRange_32 (by decide) (fun _ => ?_) (fun h => absurd (nI_le (by omega) (by omega)) h)
    refine zz_aload_n dX5_setRange_55 rfl ?_
    refine zz_aload_n dX5_setRange_56 rfl ?_
    refine zz_iload_n dX5_setRange_57 rfl ?_
    refine zz_iload_n dX5_setRange_58 rfl ?_
    refine zz_callV1 (ci := 5) (m_inRow hr (show j < 80 by omega) hn) dX5_setRange_59 zw_m_X5_69 wYX5_inRow wDX5_inRow rfl (by omega) pm_o rfl (Nat.le_of_ble_eq_true rfl) (by decide) rfl ?_
    refine zz_callV1 (ci := 5) (m_told _) dX5_setRange_62 zw_m_X5_80 wYX5_told wDX5_told rfl (by omega) pm_o rfl (Nat.le_of_ble_eq_true rfl) (by decide) rfl ?_
    refine zz_iret dX5_setRange_65 rfl ?_
    exact ⟨by simp only [up_at], rfl⟩
  | succ m ih =>
    intro i hi ha
    refine zz_iload dX5_setRange_28 rfl ?_
    refine zz_iload dX5_setRange_30 rfl ?_
    refine zz_icmp_ge (tgt := 55) dX5_setRange_32 (by decide) (fun h => absurd h (nI_ge (by omega) (by omega))) (fun _ => ?_)
    refine zz_aload_n dX5_setRange_35 rfl ?_
    refine zz_get (ci := 5) (j := 0) zz_inX5 rfl zw_f_X5_7 rfl (by decide) dX5_setRange_36 (by omega) pm_o rfl ?_
    refine zz_iload_n dX5_setRange_39 rfl ?_
    refine zz_iload_n dX5_setRange_40 rfl ?_
    refine zz_iload dX5_setRange_41 rfl ?_
    refine zz_callS1 (m_place r j i) dX5_setRange_43 zw_m_X5_62 wYX5_place wDX5_place rfl (Nat.le_of_ble_eq_true rfl) (by decide) rfl ?_
    refine zz_iload dX5_setRange_46 rfl ?_
    refine zs_mb dX5_setRange_48 (by omega) (by simp only [ml55, ml56, ml57, ml58, ml59, ml60, ml61]; omega) (by simp only [ml55, ml56, ml57, ml58, ml59, ml60, ml61]; omega) ?_
    refine zz_iinc (v := nI (i + 1)) dX5_setRange_49 rfl (nI_1 i) (by decide) ?_
    refine zz_goto (tgt := 28) dX5_setRange_52 (by decide) ?_
    have h9 := ih (i + 1) (by omega) (by omega)
    rw [← rng_s _ _ _ _ _ (show a ≤ i by omega)] at h9
    simp only [up_at, up_up, rng_at]
    exact h9
set_option maxHeartbeats 1000000 in
set_option maxRecDepth 20000 in
theorem m_setRange_v {r j : Nat} (hr : r < 4) (hj : j < n) (hn : n ≤ 80) {a e : Nat} (hae : a ≤ e) (hen : e ≤ n) (b : Bool) : zz_C mX5_setRange 3 0 0 [.ref 54, .int (nI r), .int (nI j), .int (nI a), .int (nI e), .int (zB b)] (pm MB MI (nI n) mt T) (fun o τ => o = .inl (some (.int (nI (cnt (fun k => rng (MB 55) (6400 * r + 80 * j) a e (fun _ => b) (6400 * r + 80 * j + k)) n)))) ∧ τ = pm (va_up MB 55 (rng (MB 55) (6400 * r + 80 * j) a e (fun _ => b))) MI (nI n) 0 T) := by
  have hRow : (isR (nI r) && isE n (nI j)) = true := and_t (isR_t hr) (isE_n hn hj)
  have hG : isG n (nI a) (nI e) = true := isG_n hn hae hen
  · refine zz_start wPX5_setRange rfl rfl (Nat.le_of_ble_eq_true rfl) ?_
    refine zz_aload_n dX5_setRange_0 rfl ?_
    refine zz_iload_n dX5_setRange_1 rfl ?_
    refine zz_iload_n dX5_setRange_2 rfl ?_
    refine zz_callV1 (ci := 5) (m_isRow _ _) dX5_setRange_3 zw_m_X5_83 wYX5_isRow wDX5_isRow rfl (by omega) pm_o rfl (Nat.le_of_ble_eq_true rfl) (by decide) rfl ?_
    refine zz_if_eq (tgt := 19) dX5_setRange_6 (by decide) (fun q => absurd q (by rw [hRow]; decide)) (fun _ => ?_)
    refine zz_aload_n dX5_setRange_9 rfl ?_
    refine zz_iload_n dX5_setRange_10 rfl ?_
    refine zz_iload dX5_setRange_11 rfl ?_
    refine zz_callV1 (ci := 5) (m_isG _ _) dX5_setRange_13 zw_m_X5_94 wYX5_isRange wDX5_isRange rfl (by omega) pm_o rfl (Nat.le_of_ble_eq_true rfl) (by decide) rfl ?_
    refine zz_if_ne (tgt := 25) dX5_setRange_16 (by decide) (fun _ => ?_) (fun q => absurd q (by rw [hG]; decide))
    refine zz_iload_n dX5_setRange_25 rfl ?_
    refine zz_istore dX5_setRange_26 (by decide) ?_
    have h9 := ml_setRange (MB := MB) (MI := MI) (mt := mt) (T := T) hr hj hn hae hen b (e - a) a (by omega) (Nat.le_refl a)
    rw [rng_0, up_self] at h9
    exact h9
set_option maxHeartbeats 1000000 in
set_option maxRecDepth 20000 in
theorem m_setRange_x {v w x y : Int32} (h : (isR v && isE n w && isG n x y) = false) (b : Bool) : zz_C mX5_setRange 3 0 0 [.ref 54, .int v, .int w, .int x, .int y, .int (zB b)] (pm MB MI (nI n) mt T) (fun o τ => o = .inl (some (.int 0)) ∧ τ = pm MB MI (nI n) 1 T) := by
  rcases and_f h with h1 | ⟨h1, h2⟩
  · refine zz_start wPX5_setRange rfl rfl (Nat.le_of_ble_eq_true rfl) ?_
    refine zz_aload_n dX5_setRange_0 rfl ?_
    refine zz_iload_n dX5_setRange_1 rfl ?_
    refine zz_iload_n dX5_setRange_2 rfl ?_
    refine zz_callV1 (ci := 5) (m_isRow _ _) dX5_setRange_3 zw_m_X5_83 wYX5_isRow wDX5_isRow rfl (by omega) pm_o rfl (Nat.le_of_ble_eq_true rfl) (by decide) rfl ?_
    refine zz_if_eq (tgt := 19) dX5_setRange_6 (by decide) (fun _ => ?_) (fun q => absurd (by rw [h1]; rfl) q)
    refine zz_aload_n dX5_setRange_19 rfl ?_
    refine zz_iconst (v := 1) dX5_setRange_20 (by decide) ?_
    refine zz_callV1 (ci := 5) (m_refuse 1) dX5_setRange_21 zw_m_X5_77 wYX5_refuse wDX5_refuse rfl (by omega) pm_o rfl (Nat.le_of_ble_eq_true rfl) (by decide) rfl ?_
    refine zz_iret dX5_setRange_24 rfl ?_
    exact ⟨rfl, rfl⟩
  · refine zz_start wPX5_setRange rfl rfl (Nat.le_of_ble_eq_true rfl) ?_
    refine zz_aload_n dX5_setRange_0 rfl ?_
    refine zz_iload_n dX5_setRange_1 rfl ?_
    refine zz_iload_n dX5_setRange_2 rfl ?_
    refine zz_callV1 (ci := 5) (m_isRow _ _) dX5_setRange_3 zw_m_X5_83 wYX5_isRow wDX5_isRow rfl (by omega) pm_o rfl (Nat.le_of_ble_eq_true rfl) (by decide) rfl ?_
    refine zz_if_eq (tgt := 19) dX5_setRange_6 (by decide) (fun q => absurd q (by rw [h1]; decide)) (fun _ => ?_)
    refine zz_aload_n dX5_setRange_9 rfl ?_
    refine zz_iload_n dX5_setRange_10 rfl ?_
    refine zz_iload dX5_setRange_11 rfl ?_
    refine zz_callV1 (ci := 5) (m_isG _ _) dX5_setRange_13 zw_m_X5_94 wYX5_isRange wDX5_isRange rfl (by omega) pm_o rfl (Nat.le_of_ble_eq_true rfl) (by decide) rfl ?_
    refine zz_if_ne (tgt := 25) dX5_setRange_16 (by decide) (fun q => absurd (by rw [h2]; rfl) q) (fun _ => ?_)
    refine zz_aload_n dX5_setRange_19 rfl ?_
    refine zz_iconst (v := 1) dX5_setRange_20 (by decide) ?_
    refine zz_callV1 (ci := 5) (m_refuse 1) dX5_setRange_21 zw_m_X5_77 wYX5_refuse wDX5_refuse rfl (by omega) pm_o rfl (Nat.le_of_ble_eq_true rfl) (by decide) rfl ?_
    refine zz_iret dX5_setRange_24 rfl ?_
    exact ⟨rfl, rfl⟩
set_option maxHeartbeats 1000000 in
set_option maxRecDepth 20000 in
theorem ml_flipRange {r j : Nat} (hr : r < 4) (hj : j < n) (hn : n ≤ 80) {a e : Nat} (hae : a ≤ e) (hen : e ≤ n) : ∀ (m i : Nat), i + m = e → a ≤ i → zz_E mX5_flipRange none 3 0 0 (fun o τ => o = .inl (some (.int (nI (cnt (fun k => rng (MB 55) (6400 * r + 80 * j) a e (fun x => !(MB 55 x)) (6400 * r + 80 * j + k)) n)))) ∧ τ = pm (va_up MB 55 (rng (MB 55) (6400 * r + 80 * j) a e (fun x => !(MB 55 x)))) MI (nI n) 0 T) 28 [(5, .int (nI i)), (0, .ref 54), (1, .int (nI r)), (2, .int (nI j)), (3, .int (nI a)), (4, .int (nI e))] [] (pm (va_up MB 55 (rng (MB 55) (6400 * r + 80 * j) a i (fun x => !(MB 55 x)))) MI (nI n) mt T) := by
  intro m
  induction m with
  | zero =>
    intro i hi ha
    have hi : i = e := by omega
    subst hi
    refine zz_iload dX5_flipRange_28 rfl ?_
    refine zz_iload dX5_flipRange_30 rfl ?_
    refine zz_icmp_ge (tgt := 73) dX5_flipRange_32 (by decide) (fun _ => ?_) (fun h => absurd (nI_le (by omega) (by omega)) h)
    refine zz_aload_n dX5_flipRange_73 rfl ?_
    refine zz_aload_n dX5_flipRange_74 rfl ?_
    refine zz_iload_n dX5_flipRange_75 rfl ?_
    refine zz_iload_n dX5_flipRange_76 rfl ?_
    refine zz_callV1 (ci := 5) (m_inRow hr (show j < 80 by omega) hn) dX5_flipRange_77 zw_m_X5_69 wYX5_inRow wDX5_inRow rfl (by omega) pm_o rfl (Nat.le_of_ble_eq_true rfl) (by decide) rfl ?_
    refine zz_callV1 (ci := 5) (m_told _) dX5_flipRange_80 zw_m_X5_80 wYX5_told wDX5_told rfl (by omega) pm_o rfl (Nat.le_of_ble_eq_true rfl) (by decide) rfl ?_
    refine zz_iret dX5_flipRange_83 rfl ?_
    exact ⟨by simp only [up_at], rfl⟩
  | succ m ih =>
    intro i hi ha
    refine zz_iload dX5_flipRange_28 rfl ?_
    refine zz_iload dX5_flipRange_30 rfl ?_
    refine zz_icmp_ge (tgt := 73) dX5_flipRange_32 (by decide) (fun h => absurd h (nI_ge (by omega) (by omega))) (fun _ => ?_)
    refine zz_aload_n dX5_flipRange_35 rfl ?_
    refine zz_get (ci := 5) (j := 0) zz_inX5 rfl zw_f_X5_7 rfl (by decide) dX5_flipRange_36 (by omega) pm_o rfl ?_
    refine zz_iload_n dX5_flipRange_39 rfl ?_
    refine zz_iload_n dX5_flipRange_40 rfl ?_
    refine zz_iload dX5_flipRange_41 rfl ?_
    refine zz_callS1 (m_place r j i) dX5_flipRange_43 zw_m_X5_62 wYX5_place wDX5_place rfl (Nat.le_of_ble_eq_true rfl) (by decide) rfl ?_
    refine zz_aload_n dX5_flipRange_46 rfl ?_
    refine zz_get (ci := 5) (j := 0) zz_inX5 rfl zw_f_X5_7 rfl (by decide) dX5_flipRange_47 (by omega) pm_o rfl ?_
    refine zz_iload_n dX5_flipRange_50 rfl ?_
    refine zz_iload_n dX5_flipRange_51 rfl ?_
    refine zz_iload dX5_flipRange_52 rfl ?_
    refine zz_callS1 (m_place r j i) dX5_flipRange_54 zw_m_X5_62 wYX5_place wDX5_place rfl (Nat.le_of_ble_eq_true rfl) (by decide) rfl ?_
    refine zl_mb dX5_flipRange_57 (by omega) (by simp only [ml55, ml56, ml57, ml58, ml59, ml60, ml61]; omega) (by simp only [ml55, ml56, ml57, ml58, ml59, ml60, ml61]; omega) ?_
    simp only [up_at]
    suffices K : zz_E mX5_flipRange none 3 0 0 (fun o τ => o = .inl (some (.int (nI (cnt (fun k => rng (MB 55) (6400 * r + 80 * j) a e (fun x => !(MB 55 x)) (6400 * r + 80 * j + k)) n)))) ∧ τ = pm (va_up MB 55 (rng (MB 55) (6400 * r + 80 * j) a e (fun x => !(MB 55 x)))) MI (nI n) 0 T) 66 [(5, .int (nI i)), (0, .ref 54), (1, .int (nI r)), (2, .int (nI j)), (3, .int (nI a)), (4, .int (nI e))] [.int (zB (!(rng (MB 55) (6400 * r + 80 * j) a i (fun x => !(MB 55 x)) (6400 * r + 80 * j + i)))), .int (nI (6400 * r + 80 * j + i)), .ref 55] (pm (va_up MB 55 (rng (MB 55) (6400 * r + 80 * j) a i (fun x => !(MB 55 x)))) MI (nI n) mt T) by
      cases hz : rng (MB 55) (6400 * r + 80 * j) a i (fun x => !(MB 55 x)) (6400 * r + 80 * j + i)
      · rw [hz] at K
        refine zz_if_ne (tgt := 65) dX5_flipRange_58 (by decide) (fun q => absurd rfl q) (fun _ => ?_)
        refine zz_iconst (v := 1) dX5_flipRange_61 (by decide) ?_
        refine zz_goto (tgt := 66) dX5_flipRange_62 (by decide) ?_
        exact K
      · rw [hz] at K
        refine zz_if_ne (tgt := 65) dX5_flipRange_58 (by decide) (fun _ => ?_) (fun q => absurd q (by decide))
        refine zz_iconst (v := 0) dX5_flipRange_65 (by decide) ?_
        exact K
    refine zs_mb dX5_flipRange_66 (by omega) (by simp only [ml55, ml56, ml57, ml58, ml59, ml60, ml61]; omega) (by simp only [ml55, ml56, ml57, ml58, ml59, ml60, ml61]; omega) ?_
    refine zz_iinc (v := nI (i + 1)) dX5_flipRange_67 rfl (nI_1 i) (by decide) ?_
    refine zz_goto (tgt := 28) dX5_flipRange_70 (by decide) ?_
    have h9 := ih (i + 1) (by omega) (by omega)
    rw [← rng_s _ _ _ _ _ (show a ≤ i by omega)] at h9
    simp only [up_at, up_up, rng_at]
    exact h9
set_option maxHeartbeats 1000000 in
set_option maxRecDepth 20000 in
theorem m_flipRange_v {r j : Nat} (hr : r < 4) (hj : j < n) (hn : n ≤ 80) {a e : Nat} (hae : a ≤ e) (hen : e ≤ n) : zz_C mX5_flipRange 3 0 0 [.ref 54, .int (nI r), .int (nI j), .int (nI a), .int (nI e)] (pm MB MI (nI n) mt T) (fun o τ => o = .inl (some (.int (nI (cnt (fun k => rng (MB 55) (6400 * r + 80 * j) a e (fun x => !(MB 55 x)) (6400 * r + 80 * j + k)) n)))) ∧ τ = pm (va_up MB 55 (rng (MB 55) (6400 * r + 80 * j) a e (fun x => !(MB 55 x)))) MI (nI n) 0 T) := by
  have hRow : (isR (nI r) && isE n (nI j)) = true := and_t (isR_t hr) (isE_n hn hj)
  have hG : isG n (nI a) (nI e) = true := isG_n hn hae hen
  · refine zz_start wPX5_flipRange rfl rfl (Nat.le_of_ble_eq_true rfl) ?_
    refine zz_aload_n dX5_flipRange_0 rfl ?_
    refine zz_iload_n dX5_flipRange_1 rfl ?_
    refine zz_iload_n dX5_flipRange_2 rfl ?_
    refine zz_callV1 (ci := 5) (m_isRow _ _) dX5_flipRange_3 zw_m_X5_83 wYX5_isRow wDX5_isRow rfl (by omega) pm_o rfl (Nat.le_of_ble_eq_true rfl) (by decide) rfl ?_
    refine zz_if_eq (tgt := 19) dX5_flipRange_6 (by decide) (fun q => absurd q (by rw [hRow]; decide)) (fun _ => ?_)
    refine zz_aload_n dX5_flipRange_9 rfl ?_
    refine zz_iload_n dX5_flipRange_10 rfl ?_
    refine zz_iload dX5_flipRange_11 rfl ?_
    refine zz_callV1 (ci := 5) (m_isG _ _) dX5_flipRange_13 zw_m_X5_94 wYX5_isRange wDX5_isRange rfl (by omega) pm_o rfl (Nat.le_of_ble_eq_true rfl) (by decide) rfl ?_
    refine zz_if_ne (tgt := 25) dX5_flipRange_16 (by decide) (fun _ => ?_) (fun q => absurd q (by rw [hG]; decide))
    refine zz_iload_n dX5_flipRange_25 rfl ?_
    refine zz_istore dX5_flipRange_26 (by decide) ?_
    have h9 := ml_flipRange (MB := MB) (MI := MI) (mt := mt) (T := T) hr hj hn hae hen (e - a) a (by omega) (Nat.le_refl a)
    rw [rng_0, up_self] at h9
    exact h9
set_option maxHeartbeats 1000000 in
set_option maxRecDepth 20000 in
theorem m_flipRange_x {v w x y : Int32} (h : (isR v && isE n w && isG n x y) = false) : zz_C mX5_flipRange 3 0 0 [.ref 54, .int v, .int w, .int x, .int y] (pm MB MI (nI n) mt T) (fun o τ => o = .inl (some (.int 0)) ∧ τ = pm MB MI (nI n) 1 T) := by
  rcases and_f h with h1 | ⟨h1, h2⟩
  · refine zz_start wPX5_flipRange rfl rfl (Nat.le_of_ble_eq_true rfl) ?_
    refine zz_aload_n dX5_flipRange_0 rfl ?_
    refine zz_iload_n dX5_flipRange_1 rfl ?_
    refine zz_iload_n dX5_flipRange_2 rfl ?_
    refine zz_callV1 (ci := 5) (m_isRow _ _) dX5_flipRange_3 zw_m_X5_83 wYX5_isRow wDX5_isRow rfl (by omega) pm_o rfl (Nat.le_of_ble_eq_true rfl) (by decide) rfl ?_
    refine zz_if_eq (tgt := 19) dX5_flipRange_6 (by decide) (fun _ => ?_) (fun q => absurd (by rw [h1]; rfl) q)
    refine zz_aload_n dX5_flipRange_19 rfl ?_
    refine zz_iconst (v := 1) dX5_flipRange_20 (by decide) ?_
    refine zz_callV1 (ci := 5) (m_refuse 1) dX5_flipRange_21 zw_m_X5_77 wYX5_refuse wDX5_refuse rfl (by omega) pm_o rfl (Nat.le_of_ble_eq_true rfl) (by decide) rfl ?_
    refine zz_iret dX5_flipRange_24 rfl ?_
    exact ⟨rfl, rfl⟩
  · refine zz_start wPX5_flipRange rfl rfl (Nat.le_of_ble_eq_true rfl) ?_
    refine zz_aload_n dX5_flipRange_0 rfl ?_
    refine zz_iload_n dX5_flipRange_1 rfl ?_
    refine zz_iload_n dX5_flipRange_2 rfl ?_
    refine zz_callV1 (ci := 5) (m_isRow _ _) dX5_flipRange_3 zw_m_X5_83 wYX5_isRow wDX5_isRow rfl (by omega) pm_o rfl (Nat.le_of_ble_eq_true rfl) (by decide) rfl ?_
    refine zz_if_eq (tgt := 19) dX5_flipRange_6 (by decide) (fun q => absurd q (by rw [h1]; decide)) (fun _ => ?_)
    refine zz_aload_n dX5_flipRange_9 rfl ?_
    refine zz_iload_n dX5_flipRange_10 rfl ?_
    refine zz_iload dX5_flipRange_11 rfl ?_
    refine zz_callV1 (ci := 5) (m_isG _ _) dX5_flipRange_13 zw_m_X5_94 wYX5_isRange wDX5_isRange rfl (by omega) pm_o rfl (Nat.le_of_ble_eq_true rfl) (by decide) rfl ?_
    refine zz_if_ne (tgt := 25) dX5_flipRange_16 (by decide) (fun q => absurd (by rw [h2]; rfl) q) (fun _ => ?_)
    refine zz_aload_n dX5_flipRange_19 rfl ?_
    refine zz_iconst (v := 1) dX5_flipRange_20 (by decide) ?_
    refine zz_callV1 (ci := 5) (m_refuse 1) dX5_flipRange_21 zw_m_X5_77 wYX5_refuse wDX5_refuse rfl (by omega) pm_o rfl (Nat.le_of_ble_eq_true rfl) (by decide) rfl ?_
    refine zz_iret dX5_flipRange_24 rfl ?_
    exact ⟨rfl, rfl⟩
theorem y_one (y : Int64) : y &&& 1 = 0 ∨ y &&& 1 = 1 := by
  cases h : y.toBitVec.getLsbD 0
  · refine Or.inl (w_ext (fun j hj => ?_))
    rw [w_and, w_0]
    by_cases hj0 : j = 0
    · subst hj0; rw [h]; rfl
    · rw [show (1 : Int64).toBitVec = 1#64 from rfl, BitVec.getLsbD_one]
      simp [hj0]
  · refine Or.inr (w_ext (fun j hj => ?_))
    rw [w_and]
    by_cases hj0 : j = 0
    · subst hj0; rw [h]; rfl
    · rw [show (1 : Int64).toBitVec = 1#64 from rfl, BitVec.getLsbD_one]
      simp [hj0]
def lbit (x : Int64) (k : Nat) : Bool := decide (k < 64) && x.toBitVec.getLsbD k
set_option maxHeartbeats 1000000 in
set_option maxRecDepth 20000 in
theorem ml_setRow {r j : Nat} (hr : r < 4) (hj : j < n) (hn : n ≤ 80) (bits : Int64) : ∀ (m i : Nat), i + m = n → zz_E mX5_setRow none 3 0 0 (fun o τ => o = .inl (some (.int (nI (cnt (fun k => rng (MB 55) (6400 * r + 80 * j) 0 n (fun x => lbit bits (x - (6400 * r + 80 * j))) (6400 * r + 80 * j + k)) n)))) ∧ τ = pm (va_up MB 55 (rng (MB 55) (6400 * r + 80 * j) 0 n (fun x => lbit bits (x - (6400 * r + 80 * j))))) MI (nI n) 0 T) 18 [(5, .int (nI i)), (0, .ref 54), (1, .int (nI r)), (2, .int (nI j)), (3, .long bits)] [] (pm (va_up MB 55 (rng (MB 55) (6400 * r + 80 * j) 0 i (fun x => lbit bits (x - (6400 * r + 80 * j))))) MI (nI n) mt T) := by
  intro m
  induction m with
  | zero =>
    intro i hi
    have hi : i = n := by omega
    subst hi
    refine zz_iload dX5_setRow_18 rfl ?_
    refine zz_aload_n dX5_setRow_20 rfl ?_
    refine zz_get (ci := 5) (j := 2) zz_inX5 rfl zw_f_X5_16 rfl (by decide) dX5_setRow_21 (by omega) pm_o rfl ?_
    refine zz_icmp_ge (tgt := 68) dX5_setRow_24 (by decide) (fun _ => ?_) (fun h => absurd (nI_le (by omega) (by omega)) h)
    refine zz_aload_n dX5_setRow_68 rfl ?_
    refine zz_aload_n dX5_setRow_69 rfl ?_
    refine zz_iload_n dX5_setRow_70 rfl ?_
    refine zz_iload_n dX5_setRow_71 rfl ?_
    refine zz_callV1 (ci := 5) (m_inRow hr (show j < 80 by omega) hn) dX5_setRow_72 zw_m_X5_69 wYX5_inRow wDX5_inRow rfl (by omega) pm_o rfl (Nat.le_of_ble_eq_true rfl) (by decide) rfl ?_
    refine zz_callV1 (ci := 5) (m_told _) dX5_setRow_75 zw_m_X5_80 wYX5_told wDX5_told rfl (by omega) pm_o rfl (Nat.le_of_ble_eq_true rfl) (by decide) rfl ?_
    refine zz_iret dX5_setRow_78 rfl ?_
    exact ⟨by simp only [up_at], rfl⟩
  | succ m ih =>
    intro i hi
    refine zz_iload dX5_setRow_18 rfl ?_
    refine zz_aload_n dX5_setRow_20 rfl ?_
    refine zz_get (ci := 5) (j := 2) zz_inX5 rfl zw_f_X5_16 rfl (by decide) dX5_setRow_21 (by omega) pm_o rfl ?_
    refine zz_icmp_ge (tgt := 68) dX5_setRow_24 (by decide) (fun h => absurd h (nI_ge (by omega) (by omega))) (fun _ => ?_)
    refine zz_aload_n dX5_setRow_27 rfl ?_
    refine zz_get (ci := 5) (j := 0) zz_inX5 rfl zw_f_X5_7 rfl (by decide) dX5_setRow_28 (by omega) pm_o rfl ?_
    refine zz_iload_n dX5_setRow_31 rfl ?_
    refine zz_iload_n dX5_setRow_32 rfl ?_
    refine zz_iload dX5_setRow_33 rfl ?_
    refine zz_callS1 (m_place r j i) dX5_setRow_35 zw_m_X5_62 wYX5_place wDX5_place rfl (Nat.le_of_ble_eq_true rfl) (by decide) rfl ?_
    suffices K : zz_E mX5_setRow none 3 0 0 (fun o τ => o = .inl (some (.int (nI (cnt (fun k => rng (MB 55) (6400 * r + 80 * j) 0 n (fun x => lbit bits (x - (6400 * r + 80 * j))) (6400 * r + 80 * j + k)) n)))) ∧ τ = pm (va_up MB 55 (rng (MB 55) (6400 * r + 80 * j) 0 n (fun x => lbit bits (x - (6400 * r + 80 * j))))) MI (nI n) 0 T) 61 [(5, .int (nI i)), (0, .ref 54), (1, .int (nI r)), (2, .int (nI j)), (3, .long bits)] [.int (zB (lbit bits i)), .int (nI (6400 * r + 80 * j + i)), .ref 55] (pm (va_up MB 55 (rng (MB 55) (6400 * r + 80 * j) 0 i (fun x => lbit bits (x - (6400 * r + 80 * j))))) MI (nI n) mt T) by
      by_cases h64 : i < 64
      · have e1 := @ts_bit bits ((nI i).toInt64.toUInt64 &&& Int64.toUInt64 63) i h64 (by rw [wb_cu i h64]; exact u_tn1 i h64)
        have e2 : lbit bits i = bits.toBitVec.getLsbD i := by unfold lbit; rw [decide_eq_true h64, Bool.true_and]
        have e3 : ∀ y : Int64, (y &&& 1 = 1) ↔ ¬ (y &&& 1 = 0) := fun y => by
          have := y_one y
          constructor
          · intro q; rw [q]; decide
          · intro q; exact this.resolve_left q
        refine zz_iload dX5_setRow_38 rfl ?_
        refine zz_bipush (v := 64) dX5_setRow_40 (by decide) ?_
        refine zz_icmp_ge (tgt := 60) dX5_setRow_42 (by decide) (fun q => absurd q (nI_ge (b := 64) h64 (by omega))) (fun _ => ?_)
        refine zz_lload_n dX5_setRow_45 rfl ?_
        refine zz_iload dX5_setRow_46 rfl ?_
        refine zz_lushr dX5_setRow_48 rfl ?_
        refine zz_lconst (v := 1) dX5_setRow_49 (by decide) ?_
        refine zz_land dX5_setRow_50 ?_
        refine zz_lconst (v := 1) dX5_setRow_51 (by decide) ?_
        refine zz_lcmp dX5_setRow_52 ?_
        rw [e2] at K
        refine zz_if_ne (tgt := 60) dX5_setRow_53 (by decide) (fun q => ?_) (fun q => ?_)
        · rw [cmp_e, e3, Classical.not_not, e1] at q
          rw [q] at K
          refine zz_iconst (v := 0) dX5_setRow_60 (by decide) ?_
          exact K
        · rw [cmp_e, e3, e1, Bool.not_eq_false] at q
          rw [q] at K
          refine zz_iconst (v := 1) dX5_setRow_56 (by decide) ?_
          refine zz_goto (tgt := 61) dX5_setRow_57 (by decide) ?_
          exact K
      · have e2 : lbit bits i = false := by unfold lbit; rw [decide_eq_false h64, Bool.false_and]
        rw [e2] at K
        refine zz_iload dX5_setRow_38 rfl ?_
        refine zz_bipush (v := 64) dX5_setRow_40 (by decide) ?_
        refine zz_icmp_ge (tgt := 60) dX5_setRow_42 (by decide) (fun _ => ?_) (fun q => absurd (nI_le (a := 64) (by omega) (by omega)) q)
        refine zz_iconst (v := 0) dX5_setRow_60 (by decide) ?_
        exact K
    refine zs_mb dX5_setRow_61 (by omega) (by simp only [ml55, ml56, ml57, ml58, ml59, ml60, ml61]; omega) (by simp only [ml55, ml56, ml57, ml58, ml59, ml60, ml61]; omega) ?_
    refine zz_iinc (v := nI (i + 1)) dX5_setRow_62 rfl (nI_1 i) (by decide) ?_
    refine zz_goto (tgt := 18) dX5_setRow_65 (by decide) ?_
    have h9 := ih (i + 1) (by omega)
    rw [← rng_s _ _ _ _ _ (Nat.zero_le i)] at h9
    simp only [up_at, up_up]
    have e9 : 6400 * r + 80 * j + i - (6400 * r + 80 * j) = i := by omega
    simp only [e9] at h9
    exact h9
set_option maxHeartbeats 1000000 in
set_option maxRecDepth 20000 in
theorem m_setRow_v {r j : Nat} (hr : r < 4) (hj : j < n) (hn : n ≤ 80) (bits : Int64) : zz_C mX5_setRow 3 0 0 [.ref 54, .int (nI r), .int (nI j), .long bits] (pm MB MI (nI n) mt T) (fun o τ => o = .inl (some (.int (nI (cnt (fun k => rng (MB 55) (6400 * r + 80 * j) 0 n (fun x => lbit bits (x - (6400 * r + 80 * j))) (6400 * r + 80 * j + k)) n)))) ∧ τ = pm (va_up MB 55 (rng (MB 55) (6400 * r + 80 * j) 0 n (fun x => lbit bits (x - (6400 * r + 80 * j))))) MI (nI n) 0 T) := by
  have hRow : (isR (nI r) && isE n (nI j)) = true := and_t (isR_t hr) (isE_n hn hj)
  · refine zz_start wPX5_setRow rfl rfl (Nat.le_of_ble_eq_true rfl) ?_
    refine zz_aload_n dX5_setRow_0 rfl ?_
    refine zz_iload_n dX5_setRow_1 rfl ?_
    refine zz_iload_n dX5_setRow_2 rfl ?_
    refine zz_callV1 (ci := 5) (m_isRow _ _) dX5_setRow_3 zw_m_X5_83 wYX5_isRow wDX5_isRow rfl (by omega) pm_o rfl (Nat.le_of_ble_eq_true rfl) (by decide) rfl ?_
    refine zz_if_ne (tgt := 15) dX5_setRow_6 (by decide) (fun _ => ?_) (fun q => absurd q (by rw [hRow]; decide))
    refine zz_iconst (v := 0) dX5_setRow_15 (by decide) ?_
    refine zz_istore dX5_setRow_16 (by decide) ?_
    have h9 := ml_setRow (MB := MB) (MI := MI) (mt := mt) (T := T) hr hj hn bits n 0 (by omega)
    rw [rng_0, up_self] at h9
    exact h9
set_option maxHeartbeats 1000000 in
set_option maxRecDepth 20000 in
theorem m_setRow_x {v w : Int32} (h : (isR v && isE n w) = false) (bits : Int64) : zz_C mX5_setRow 3 0 0 [.ref 54, .int v, .int w, .long bits] (pm MB MI (nI n) mt T) (fun o τ => o = .inl (some (.int 0)) ∧ τ = pm MB MI (nI n) 1 T) := by
  · refine zz_start wPX5_setRow rfl rfl (Nat.le_of_ble_eq_true rfl) ?_
    refine zz_aload_n dX5_setRow_0 rfl ?_
    refine zz_iload_n dX5_setRow_1 rfl ?_
    refine zz_iload_n dX5_setRow_2 rfl ?_
    refine zz_callV1 (ci := 5) (m_isRow _ _) dX5_setRow_3 zw_m_X5_83 wYX5_isRow wDX5_isRow rfl (by omega) pm_o rfl (Nat.le_of_ble_eq_true rfl) (by decide) rfl ?_
    refine zz_if_ne (tgt := 15) dX5_setRow_6 (by decide) (fun q => absurd (by rw [h]; rfl) q) (fun _ => ?_)
    refine zz_aload_n dX5_setRow_9 rfl ?_
    refine zz_iconst (v := 1) dX5_setRow_10 (by decide) ?_
    refine zz_callV1 (ci := 5) (m_refuse 1) dX5_setRow_11 zw_m_X5_77 wYX5_refuse wDX5_refuse rfl (by omega) pm_o rfl (Nat.le_of_ble_eq_true rfl) (by decide) rfl ?_
    refine zz_iret dX5_setRow_14 rfl ?_
    exact ⟨rfl, rfl⟩
end ZZM2
