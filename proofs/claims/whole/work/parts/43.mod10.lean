section ZZM10
variable {MB : Nat → Nat → Bool} {MI : Nat → Nat → Int32} {n : Nat} {mt : Int32} {T : zz_St}
def prB (f : Nat → Bool) (n r : Nat) : Nat := sm (fun j => cnt (fun k => f (6400 * r + 80 * j + k)) n) n
def zmQ (n : Nat) (T : zz_St) (f55 f56 : Nat → Bool) (mt : Int32) (v : Option Value) : zz_Q := fun o τ => o = .inl v ∧ ∃ (MB : Nat → Nat → Bool) (MI : Nat → Nat → Int32), MB 55 = f55 ∧ MB 56 = f56 ∧ τ = pm MB MI (nI n) mt T
def stQ (MB : Nat → Nat → Bool) (n r i k : Nat) (T : zz_St) : zz_Q := fun o τ => ∃ v, o = .inl (some (.int v)) ∧ ((v = -1 ∧ ¬ rch (rl MB r) n i k) ∨ ∃ d, d ≤ n ∧ v = nI d ∧ dst (rl MB r) n i k d) ∧ ∃ MI, τ = pm MB MI (nI n) 0 T
theorem fr_G {R : Nat → Nat → Bool} {n i k : Nat} (hk : k < n) (hn : n ≤ 80) {v : Int32} (h : (v = -1 ∧ ¬ rch R n i k) ∨ ∃ d, d ≤ n ∧ v = nI d ∧ dst R n i k d) : (v = -1 ↔ rchB R n i k = false) := by
  rcases h with ⟨h1, h2⟩ | ⟨d, h1, h2, h3⟩
  · exact ⟨fun _ => (rchB_f hk).mpr h2, fun _ => h1⟩
  · constructor
    · intro h
      rw [h2] at h
      exact absurd (h ▸ nI_pos (n := d) (by omega)) (by decide)
    · intro h
      exact absurd (⟨d - 1, by rw [Nat.sub_add_cancel h3.1]; exact h3.2.1⟩ : rch R n i k) ((rchB_f hk).mp h)
set_option maxHeartbeats 1000000 in
set_option maxRecDepth 20000 in
theorem m_steps_v {r i0 : Nat} (hr : r < 4) (hi0 : i0 < n) (hn : n ≤ 80) {k0 : Nat} (hk0 : k0 < n) : zz_C mX5_steps 3 0 0 [.ref 54, .int (nI r), .int (nI i0), .int (nI k0)] (pm MB MI (nI n) mt T) (stQ MB n r i0 k0 T) := by
  have e1 : (isR (nI r) && isE n (nI i0)) = true := and_t (isR_t hr) (isE_n hn hi0)
  have e2 := isE_n hn hk0
  · refine zz_start wPX5_steps rfl rfl (Nat.le_of_ble_eq_true rfl) ?_
    refine zz_aload_n dX5_steps_0 rfl ?_
    refine zz_iload_n dX5_steps_1 rfl ?_
    refine zz_iload_n dX5_steps_2 rfl ?_
    refine zz_callV1 (ci := 5) (m_isRow _ _) dX5_steps_3 zw_m_X5_83 wYX5_isRow wDX5_isRow rfl (by omega) pm_o rfl (Nat.le_of_ble_eq_true rfl) (by decide) rfl ?_
    refine zz_if_eq (tgt := 17) dX5_steps_6 (by decide) (fun q => absurd q (by rw [e1]; decide)) (fun _ => ?_)
    refine zz_aload_n dX5_steps_9 rfl ?_
    refine zz_iload_n dX5_steps_10 rfl ?_
    refine zz_callV1 (ci := 5) (m_isE _) dX5_steps_11 zw_m_X5_59 wYX5_isElement wDX5_isElement rfl (by omega) pm_o rfl (Nat.le_of_ble_eq_true rfl) (by decide) rfl ?_
    refine zz_if_ne (tgt := 23) dX5_steps_14 (by decide) (fun _ => ?_) (fun q => absurd q (by rw [e2]; decide))
    refine zz_aload_n dX5_steps_23 rfl ?_
    refine zz_iload_n dX5_steps_24 rfl ?_
    refine zz_iload_n dX5_steps_25 rfl ?_
    refine zz_callV (ci := 5) (m_walks hr hi0 hn) dX5_steps_26 zw_m_X5_105 wYX5_walks wDX5_walks rfl (by omega) pm_o rfl (Nat.le_of_ble_eq_true rfl) (by decide) (by omega) (by omega) rfl ?_ (fun E τ hE => by cases hE.1)
    rintro v9 τ9 ⟨hv9, MI2, hfar, rfl⟩
    cases hv9
    refine zz_aload_n dX5_steps_29 rfl ?_
    refine zz_aload_n dX5_steps_30 rfl ?_
    refine zz_get (ci := 5) (j := 10) zz_inX5 rfl zw_f_X5_39 rfl (by decide) dX5_steps_31 (by omega) pm_o rfl ?_
    refine zz_iload_n dX5_steps_34 rfl ?_
    refine zl_mi dX5_steps_35 (by omega) (by omega) ?_
    refine zz_callV1 (ci := 5) (m_told _) dX5_steps_36 zw_m_X5_80 wYX5_told wDX5_told rfl (by omega) pm_o rfl (Nat.le_of_ble_eq_true rfl) (by decide) rfl ?_
    refine zz_iret dX5_steps_39 rfl ?_
    exact ⟨_, rfl, hfar k0 hk0, MI2, rfl⟩
set_option maxHeartbeats 1000000 in
set_option maxRecDepth 20000 in
theorem m_steps_x {v w u : Int32} (h : (isR v && isE n w && isE n u) = false) : zz_C mX5_steps 3 0 0 [.ref 54, .int v, .int w, .int u] (pm MB MI (nI n) mt T) (fun o τ => o = .inl (some (.int 0)) ∧ τ = pm MB MI (nI n) 1 T) := by
  rcases and_f h with h1 | ⟨h1, h2⟩
  · refine zz_start wPX5_steps rfl rfl (Nat.le_of_ble_eq_true rfl) ?_
    refine zz_aload_n dX5_steps_0 rfl ?_
    refine zz_iload_n dX5_steps_1 rfl ?_
    refine zz_iload_n dX5_steps_2 rfl ?_
    refine zz_callV1 (ci := 5) (m_isRow _ _) dX5_steps_3 zw_m_X5_83 wYX5_isRow wDX5_isRow rfl (by omega) pm_o rfl (Nat.le_of_ble_eq_true rfl) (by decide) rfl ?_
    refine zz_if_eq (tgt := 17) dX5_steps_6 (by decide) (fun _ => ?_) (fun q => absurd (by rw [h1]; rfl) q)
    refine zz_aload_n dX5_steps_17 rfl ?_
    refine zz_iconst (v := 1) dX5_steps_18 (by decide) ?_
    refine zz_callV1 (ci := 5) (m_refuse 1) dX5_steps_19 zw_m_X5_77 wYX5_refuse wDX5_refuse rfl (by omega) pm_o rfl (Nat.le_of_ble_eq_true rfl) (by decide) rfl ?_
    refine zz_iret dX5_steps_22 rfl ?_
    exact ⟨rfl, rfl⟩
  · refine zz_start wPX5_steps rfl rfl (Nat.le_of_ble_eq_true rfl) ?_
    refine zz_aload_n dX5_steps_0 rfl ?_
    refine zz_iload_n dX5_steps_1 rfl ?_
    refine zz_iload_n dX5_steps_2 rfl ?_
    refine zz_callV1 (ci := 5) (m_isRow _ _) dX5_steps_3 zw_m_X5_83 wYX5_isRow wDX5_isRow rfl (by omega) pm_o rfl (Nat.le_of_ble_eq_true rfl) (by decide) rfl ?_
    refine zz_if_eq (tgt := 17) dX5_steps_6 (by decide) (fun q => absurd q (by rw [h1]; decide)) (fun _ => ?_)
    refine zz_aload_n dX5_steps_9 rfl ?_
    refine zz_iload_n dX5_steps_10 rfl ?_
    refine zz_callV1 (ci := 5) (m_isE _) dX5_steps_11 zw_m_X5_59 wYX5_isElement wDX5_isElement rfl (by omega) pm_o rfl (Nat.le_of_ble_eq_true rfl) (by decide) rfl ?_
    refine zz_if_ne (tgt := 23) dX5_steps_14 (by decide) (fun q => absurd (by rw [h2]; rfl) q) (fun _ => ?_)
    refine zz_aload_n dX5_steps_17 rfl ?_
    refine zz_iconst (v := 1) dX5_steps_18 (by decide) ?_
    refine zz_callV1 (ci := 5) (m_refuse 1) dX5_steps_19 zw_m_X5_77 wYX5_refuse wDX5_refuse rfl (by omega) pm_o rfl (Nat.le_of_ble_eq_true rfl) (by decide) rfl ?_
    refine zz_iret dX5_steps_22 rfl ?_
    exact ⟨rfl, rfl⟩
set_option maxHeartbeats 1000000 in
set_option maxRecDepth 20000 in
theorem ml_clI {Q : zz_Q} {r : Nat} (hr : r < 4) (hn : n ≤ 80) {a : Nat} (ha : a < n) (hfar : ∀ k, k < n → (MI 63 k = -1 ↔ rchB (rl MB r) n a k = false)) (K : zz_E mX5_closes none 3 0 0 Q 58 [(3, .int (nI n)), (2, .int (nI a)), (0, .ref 54), (1, .int (nI r))] [] (pm (va_up MB 57 (gs (MB 57) 0 n a n (rchB (rl MB r) n))) MI (nI n) mt T)) : ∀ (m i : Nat), i + m = n → zz_E mX5_closes none 3 0 0 (Q) 18 [(3, .int (nI i)), (2, .int (nI a)), (0, .ref 54), (1, .int (nI r))] [] (pm (va_up MB 57 (gs (MB 57) 0 n a i (rchB (rl MB r) n))) MI (nI n) mt T) := by
  intro m
  induction m with
  | zero =>
    intro i hi
    have hi : n = i := by omega
    subst hi
    refine zz_iload_n dX5_closes_18 rfl ?_
    refine zz_aload_n dX5_closes_19 rfl ?_
    refine zz_get (ci := 5) (j := 2) zz_inX5 rfl zw_f_X5_16 rfl (by decide) dX5_closes_20 (by omega) pm_o rfl ?_
    refine zz_icmp_ge (tgt := 58) dX5_closes_23 (by decide) (fun _ => ?_) (fun h => absurd (nI_le (by omega) (by omega)) h)
    exact K
  | succ m ih =>
    intro i hi
    refine zz_iload_n dX5_closes_18 rfl ?_
    refine zz_aload_n dX5_closes_19 rfl ?_
    refine zz_get (ci := 5) (j := 2) zz_inX5 rfl zw_f_X5_16 rfl (by decide) dX5_closes_20 (by omega) pm_o rfl ?_
    refine zz_icmp_ge (tgt := 58) dX5_closes_23 (by decide) (fun h => absurd h (nI_ge (by omega) (by omega))) (fun _ => ?_)
    refine zz_aload_n dX5_closes_26 rfl ?_
    refine zz_get (ci := 5) (j := 4) zz_inX5 rfl zw_f_X5_20 rfl (by decide) dX5_closes_27 (by omega) pm_o rfl ?_
    refine zz_bipush (v := 80) dX5_closes_30 (by decide) ?_
    refine zz_iload_n dX5_closes_32 rfl ?_
    refine zz_imul dX5_closes_33 ?_
    refine zz_iload_n dX5_closes_34 rfl ?_
    refine zz_iadd dX5_closes_35 ?_
    refine zz_tope (y := nI (80 * a + i)) (by simp only [i80, i6400, pk_mul, nI_add, nI_1]) ?_
    refine zz_aload_n dX5_closes_36 rfl ?_
    refine zz_get (ci := 5) (j := 10) zz_inX5 rfl zw_f_X5_39 rfl (by decide) dX5_closes_37 (by omega) pm_o rfl ?_
    refine zz_iload_n dX5_closes_40 rfl ?_
    refine zl_mi dX5_closes_41 (by omega) (by omega) ?_
    refine zz_iconst (v := (-1)) dX5_closes_42 (by decide) ?_
    refine zz_icmp_eq (tgt := 50) dX5_closes_43 (by decide) (fun h43 => ?_) (fun h43 => ?_)
    · refine zz_iconst (v := 0) dX5_closes_50 (by decide) ?_
      refine zz_tope (y := zB (rchB (rl MB r) n a i)) (by first | (rw [(hfar i (by omega)).mp h43]; rfl) | (rw [show rchB (rl MB r) n a i = true from by cases hq : rchB (rl MB r) n a i; exact absurd ((hfar i (by omega)).mpr hq) h43; rfl]; rfl)) ?_
      refine zs_mb dX5_closes_51 (by omega) (by simp only [ml55, ml56, ml57, ml58, ml59, ml60, ml61]; omega) (by simp only [ml55, ml56, ml57, ml58, ml59, ml60, ml61]; omega) ?_
      refine zz_iinc (v := nI (i + 1)) dX5_closes_52 rfl (nI_1 i) (by decide) ?_
      refine zz_goto (tgt := 18) dX5_closes_55 (by decide) ?_
      have h9 := ih (i + 1) (by omega)
      rw [← gs0_s hn ha (show i < n by omega)] at h9
      simp only [up_at, up_up]
      exact h9
    · refine zz_iconst (v := 1) dX5_closes_46 (by decide) ?_
      refine zz_goto (tgt := 51) dX5_closes_47 (by decide) ?_
      refine zz_tope (y := zB (rchB (rl MB r) n a i)) (by first | (rw [(hfar i (by omega)).mp h43]; rfl) | (rw [show rchB (rl MB r) n a i = true from by cases hq : rchB (rl MB r) n a i; exact absurd ((hfar i (by omega)).mpr hq) h43; rfl]; rfl)) ?_
      refine zs_mb dX5_closes_51 (by omega) (by simp only [ml55, ml56, ml57, ml58, ml59, ml60, ml61]; omega) (by simp only [ml55, ml56, ml57, ml58, ml59, ml60, ml61]; omega) ?_
      refine zz_iinc (v := nI (i + 1)) dX5_closes_52 rfl (nI_1 i) (by decide) ?_
      refine zz_goto (tgt := 18) dX5_closes_55 (by decide) ?_
      have h9 := ih (i + 1) (by omega)
      rw [← gs0_s hn ha (show i < n by omega)] at h9
      simp only [up_at, up_up]
      exact h9
set_option maxHeartbeats 1000000 in
set_option maxRecDepth 20000 in
theorem ml_clO {r : Nat} (hr : r < 4) (hn : n ≤ 80) : ∀ (m i : Nat), i + m = n → ∀ (MI : Nat → Nat → Int32), zz_E mX5_closes none 3 0 0 (fun o τ => o = .inl none ∧ ∃ MI, τ = pm (va_up MB 57 (gs (MB 57) 0 n n 0 (rchB (rl MB r) n))) MI (nI n) mt T) 2 [(2, .int (nI i)), (0, .ref 54), (1, .int (nI r))] [] (pm (va_up MB 57 (gs (MB 57) 0 n i 0 (rchB (rl MB r) n))) MI (nI n) mt T) := by
  intro m
  induction m with
  | zero =>
    intro i hi MI
    have hi : n = i := by omega
    subst hi
    refine zz_iload_n dX5_closes_2 rfl ?_
    refine zz_aload_n dX5_closes_3 rfl ?_
    refine zz_get (ci := 5) (j := 2) zz_inX5 rfl zw_f_X5_16 rfl (by decide) dX5_closes_4 (by omega) pm_o rfl ?_
    refine zz_icmp_ge (tgt := 64) dX5_closes_7 (by decide) (fun _ => ?_) (fun h => absurd (nI_le (by omega) (by omega)) h)
    refine zz_vret dX5_closes_64 rfl ?_
    exact ⟨rfl, MI, rfl⟩
  | succ m ih =>
    intro i hi MI
    refine zz_iload_n dX5_closes_2 rfl ?_
    refine zz_aload_n dX5_closes_3 rfl ?_
    refine zz_get (ci := 5) (j := 2) zz_inX5 rfl zw_f_X5_16 rfl (by decide) dX5_closes_4 (by omega) pm_o rfl ?_
    refine zz_icmp_ge (tgt := 64) dX5_closes_7 (by decide) (fun h => absurd h (nI_ge (by omega) (by omega))) (fun _ => ?_)
    refine zz_aload_n dX5_closes_10 rfl ?_
    refine zz_iload_n dX5_closes_11 rfl ?_
    refine zz_iload_n dX5_closes_12 rfl ?_
    refine zz_callV (ci := 5) (m_walks hr (show i < n by omega) hn) dX5_closes_13 zw_m_X5_105 wYX5_walks wDX5_walks rfl (by omega) pm_o rfl (Nat.le_of_ble_eq_true rfl) (by decide) (by omega) (by omega) rfl ?_ (fun E τ hE => by cases hE.1)
    rintro v9 τ9 ⟨hv9, MI2, hfar, rfl⟩
    cases hv9
    refine zz_iconst (v := 0) dX5_closes_16 (by decide) ?_
    refine zz_istore_n dX5_closes_17 (by decide) ?_
    refine ml_clI (MB := MB) (MI := MI2) hr hn (a := i) (by omega) (fun k hk => fr_G hk hn (hfar k hk)) ?_ n 0 (by omega)
    refine zz_iinc (v := nI (i + 1)) dX5_closes_58 rfl (nI_1 i) (by decide) ?_
    refine zz_goto (tgt := 2) dX5_closes_61 (by decide) ?_
    refine zz_lvs (lv2 := [(2, .int (nI (i + 1))), (0, .ref 54), (1, .int (nI r))]) (fun q hq => by simp only [List.mem_cons, List.not_mem_nil, or_false] at hq; rcases hq with rfl | rfl | rfl <;> simp [zz_up1, zz_up2, Value.category]) ?_
    have h9 := ih (i + 1) (by omega) MI2
    rw [← gs_row] at h9
    exact h9
set_option maxHeartbeats 1000000 in
set_option maxRecDepth 20000 in
theorem m_closes {r : Nat} (hr : r < 4) (hn : n ≤ 80) : zz_C mX5_closes 3 0 0 [.ref 54, .int (nI r)] (pm MB MI (nI n) mt T) (fun o τ => o = .inl none ∧ ∃ MI, τ = pm (va_up MB 57 (gs (MB 57) 0 n n 0 (rchB (rl MB r) n))) MI (nI n) mt T) := by
  refine zz_start wPX5_closes rfl rfl (Nat.le_of_ble_eq_true rfl) ?_
  refine zz_iconst (v := 0) dX5_closes_0 (by decide) ?_
  refine zz_istore_n dX5_closes_1 (by decide) ?_
  have h9 := ml_clO (MB := MB) (mt := mt) (T := T) hr hn n 0 (by omega) MI
  rw [gs_0, up_self] at h9
  exact h9
set_option maxHeartbeats 1000000 in
set_option maxRecDepth 20000 in
theorem ml_rg {r : Nat} (hr : r < 4) (hn : n ≤ 80) : ∀ (m i : Nat), i + m = n → ∀ (MI : Nat → Nat → Int32), zz_E mX5_isRinged none 3 0 0 (fun o τ => o = .inl (some (.int (zB (anb (fun k => rchB (rl MB r) n k k) n)))) ∧ ∃ MI, τ = pm MB MI (nI n) mt T) 4 [(3, .int (nI i)), (2, .int (zB (anb (fun k => rchB (rl MB r) n k k) i))), (0, .ref 54), (1, .int (nI r))] [] (pm MB MI (nI n) mt T) := by
  intro m
  induction m with
  | zero =>
    intro i hi MI
    have hi : n = i := by omega
    subst hi
    refine zz_iload_n dX5_isRinged_4 rfl ?_
    refine zz_aload_n dX5_isRinged_5 rfl ?_
    refine zz_get (ci := 5) (j := 2) zz_inX5 rfl zw_f_X5_16 rfl (by decide) dX5_isRinged_6 (by omega) pm_o rfl ?_
    refine zz_icmp_ge (tgt := 44) dX5_isRinged_9 (by decide) (fun _ => ?_) (fun h => absurd (nI_le (by omega) (by omega)) h)
    refine zz_iload_n dX5_isRinged_44 rfl ?_
    refine zz_zret dX5_isRinged_45 rfl (by first | rfl | exact zB_nar _) ?_
    exact ⟨rfl, MI, rfl⟩
  | succ m ih =>
    intro i hi MI
    refine zz_iload_n dX5_isRinged_4 rfl ?_
    refine zz_aload_n dX5_isRinged_5 rfl ?_
    refine zz_get (ci := 5) (j := 2) zz_inX5 rfl zw_f_X5_16 rfl (by decide) dX5_isRinged_6 (by omega) pm_o rfl ?_
    refine zz_icmp_ge (tgt := 44) dX5_isRinged_9 (by decide) (fun h => absurd h (nI_ge (by omega) (by omega))) (fun _ => ?_)
    refine zz_iload_n dX5_isRinged_12 rfl ?_
    refine zz_if_ne (tgt := 44) dX5_isRinged_13 (by decide) (fun h13 => ?_) (fun h13 => ?_)
    · refine zz_iload_n dX5_isRinged_44 rfl ?_
      refine zz_zret dX5_isRinged_45 rfl (by first | rfl | exact zB_nar _) ?_
      have e9 : anb (fun k => rchB (rl MB r) n k k) n = anb (fun k => rchB (rl MB r) n k k) i := (anb_m (show i ≤ n by omega) (zB_n.mp h13)).trans (zB_n.mp h13).symm
      exact ⟨by rw [e9], MI, rfl⟩
    · refine zz_aload_n dX5_isRinged_16 rfl ?_
      refine zz_iload_n dX5_isRinged_17 rfl ?_
      refine zz_iload_n dX5_isRinged_18 rfl ?_
      refine zz_callV (ci := 5) (m_walks hr (show i < n by omega) hn) dX5_isRinged_19 zw_m_X5_105 wYX5_walks wDX5_walks rfl (by omega) pm_o rfl (Nat.le_of_ble_eq_true rfl) (by decide) (by omega) (by omega) rfl ?_ (fun E τ hE => by cases hE.1)
      rintro v9 τ9 ⟨hv9, MI2, hfar, rfl⟩
      cases hv9
      refine zz_aload_n dX5_isRinged_22 rfl ?_
      refine zz_get (ci := 5) (j := 10) zz_inX5 rfl zw_f_X5_39 rfl (by decide) dX5_isRinged_23 (by omega) pm_o rfl ?_
      refine zz_iload_n dX5_isRinged_26 rfl ?_
      refine zl_mi dX5_isRinged_27 (by omega) (by omega) ?_
      refine zz_iconst (v := (-1)) dX5_isRinged_28 (by decide) ?_
      refine zz_icmp_eq (tgt := 36) dX5_isRinged_29 (by decide) (fun h29 => ?_) (fun h29 => ?_)
      · refine zz_iconst (v := 0) dX5_isRinged_36 (by decide) ?_
        have hG := fr_G (show i < n by omega) hn (hfar i (by omega))
        refine zz_tope (y := zB (rchB (rl MB r) n i i)) (by first | (rw [hG.mp h29]; rfl) | (rw [show rchB (rl MB r) n i i = true from by cases hq : rchB (rl MB r) n i i; exact absurd (hG.mpr hq) h29; rfl]; rfl)) ?_
        refine zz_istore_n dX5_isRinged_37 (by decide) ?_
        refine zz_iinc (v := nI (i + 1)) dX5_isRinged_38 rfl (nI_1 i) (by decide) ?_
        refine zz_goto (tgt := 4) dX5_isRinged_41 (by decide) ?_
        have h9 := ih (i + 1) (by omega) MI2
        rw [anb_s (zB_0.mp h13)] at h9
        exact h9
      · refine zz_iconst (v := 1) dX5_isRinged_32 (by decide) ?_
        refine zz_goto (tgt := 37) dX5_isRinged_33 (by decide) ?_
        have hG := fr_G (show i < n by omega) hn (hfar i (by omega))
        refine zz_tope (y := zB (rchB (rl MB r) n i i)) (by first | (rw [hG.mp h29]; rfl) | (rw [show rchB (rl MB r) n i i = true from by cases hq : rchB (rl MB r) n i i; exact absurd (hG.mpr hq) h29; rfl]; rfl)) ?_
        refine zz_istore_n dX5_isRinged_37 (by decide) ?_
        refine zz_iinc (v := nI (i + 1)) dX5_isRinged_38 rfl (nI_1 i) (by decide) ?_
        refine zz_goto (tgt := 4) dX5_isRinged_41 (by decide) ?_
        have h9 := ih (i + 1) (by omega) MI2
        rw [anb_s (zB_0.mp h13)] at h9
        exact h9
set_option maxHeartbeats 1000000 in
set_option maxRecDepth 20000 in
theorem m_ringed {r : Nat} (hr : r < 4) (hn : n ≤ 80) : zz_C mX5_isRinged 3 0 0 [.ref 54, .int (nI r)] (pm MB MI (nI n) mt T) (fun o τ => o = .inl (some (.int (zB (anb (fun k => rchB (rl MB r) n k k) n)))) ∧ ∃ MI, τ = pm MB MI (nI n) mt T) := by
  refine zz_start wPX5_isRinged rfl rfl (Nat.le_of_ble_eq_true rfl) ?_
  refine zz_iconst (v := 0) dX5_isRinged_0 (by decide) ?_
  refine zz_istore_n dX5_isRinged_1 (by decide) ?_
  refine zz_iconst (v := 0) dX5_isRinged_2 (by decide) ?_
  refine zz_istore_n dX5_isRinged_3 (by decide) ?_
  exact ml_rg (MB := MB) (mt := mt) (T := T) hr hn n 0 (by omega) MI
def ownG (G : Nat → Nat → Bool) (w : Bool) (m : Nat) : Nat → Nat → Bool := fun i k => G i k || (w && (decide (i = k) && decide (i < m)))
theorem ownG_s {f : Nat → Bool} {n i : Nat} {G : Nat → Nat → Bool} (hn : n ≤ 80) (hi : i < n) (w : Bool) : va_up (gs f 0 n n 0 (ownG G w i)) (80 * i + i) (G i i || w) = gs f 0 n n 0 (ownG G w (i + 1)) := by
  rw [gs_up hn hi hi]
  refine gs_c (fun a b ha hb => ?_)
  unfold ownG
  by_cases e : a = i ∧ b = i
  · rw [if_pos e, e.1, e.2, decide_eq_true (rfl : i = i), decide_eq_true (show i < i + 1 by omega), Bool.and_true, Bool.and_true]
  · rw [if_neg e]
    congr 2
    by_cases h : a = b
    · have h2 : a ≠ i := fun q => e ⟨q, by omega⟩
      rw [Bool.eq_iff_iff]
      simp only [Bool.and_eq_true, decide_eq_true_eq]
      omega
    · rw [decide_eq_false h, Bool.false_and, Bool.false_and]
theorem ownG_at {G : Nat → Nat → Bool} {w : Bool} {i : Nat} : ownG G w i i i = G i i := by
  unfold ownG
  rw [decide_eq_false (show ¬ i < i by omega), Bool.and_false, Bool.and_false, Bool.or_false]
theorem ownG_0 {f : Nat → Bool} {n : Nat} {G : Nat → Nat → Bool} {w : Bool} : gs f 0 n n 0 (ownG G w 0) = gs f 0 n n 0 G := gs_c (fun a b _ _ => by
  unfold ownG
  rw [decide_eq_false (show ¬ a < 0 by omega), Bool.and_false, Bool.and_false, Bool.or_false])
set_option maxHeartbeats 1000000 in
set_option maxRecDepth 20000 in
theorem ml_cls {r : Nat} (hr : r < 4) (hn : n ≤ 80) (ow : Bool) {S : Nat → Bool} : ∀ (m i : Nat), i + m = n → zz_E mX5_close none 5 0 0 (zmQ n T (gs (MB 55) r n n 0 (ownG (rchB (rl MB r) n) ow n)) (MB 56) 0 (some (.int (nI (prB (gs (MB 55) r n n 0 (ownG (rchB (rl MB r) n) ow n)) n r))))) 20 [(3, .int (nI i)), (0, .ref 54), (1, .int (nI r)), (2, .int (zB ow))] [] (pm (va_up MB 57 (gs S 0 n n 0 (ownG (rchB (rl MB r) n) ow i))) MI (nI n) mt T) := by
  intro m
  induction m with
  | zero =>
    intro i hi
    have hi : n = i := by omega
    subst hi
    refine zz_iload_n dX5_close_20 rfl ?_
    refine zz_aload_n dX5_close_21 rfl ?_
    refine zz_get (ci := 5) (j := 2) zz_inX5 rfl zw_f_X5_16 rfl (by decide) dX5_close_22 (by omega) pm_o rfl ?_
    refine zz_icmp_ge (tgt := 68) dX5_close_25 (by decide) (fun _ => ?_) (fun h => absurd (nI_le (by omega) (by omega)) h)
    refine zz_aload_n dX5_close_68 rfl ?_
    refine zz_aload_n dX5_close_69 rfl ?_
    refine zz_iload_n dX5_close_70 rfl ?_
    refine zz_callV1 (ci := 5) (m_lays hr hn) dX5_close_71 zw_m_X5_102 wYX5_lays wDX5_lays rfl (by omega) pm_o rfl (Nat.le_of_ble_eq_true rfl) (by decide) rfl ?_
    refine zz_callV1 (ci := 5) (m_told _) dX5_close_74 zw_m_X5_80 wYX5_told wDX5_told rfl (by omega) pm_o rfl (Nat.le_of_ble_eq_true rfl) (by decide) rfl ?_
    refine zz_iret dX5_close_77 rfl ?_
    have e9 : gs (MB 55) r n n 0 (fun a b => gs S 0 n n 0 (ownG (rchB (rl MB r) n) ow n) (80 * a + b)) = gs (MB 55) r n n 0 (ownG (rchB (rl MB r) n) ow n) := gs_c (fun a b ha hb => gs0_get hn ha hb)
    refine ⟨?_, _, MI, ?_, ?_, rfl⟩
    · simp only [up_at, up_ne _ _ (show (55 : Nat) ≠ 57 by decide)]
      rw [e9]
      rfl
    · simp only [up_at, up_ne _ _ (show (55 : Nat) ≠ 57 by decide)]
      exact e9
    · simp only [up_ne _ _ (show (56 : Nat) ≠ 55 by decide), up_ne _ _ (show (56 : Nat) ≠ 57 by decide)]
  | succ m ih =>
    intro i hi
    refine zz_iload_n dX5_close_20 rfl ?_
    refine zz_aload_n dX5_close_21 rfl ?_
    refine zz_get (ci := 5) (j := 2) zz_inX5 rfl zw_f_X5_16 rfl (by decide) dX5_close_22 (by omega) pm_o rfl ?_
    refine zz_icmp_ge (tgt := 68) dX5_close_25 (by decide) (fun h => absurd h (nI_ge (by omega) (by omega))) (fun _ => ?_)
    refine zz_aload_n dX5_close_28 rfl ?_
    refine zz_get (ci := 5) (j := 4) zz_inX5 rfl zw_f_X5_20 rfl (by decide) dX5_close_29 (by omega) pm_o rfl ?_
    refine zz_bipush (v := 80) dX5_close_32 (by decide) ?_
    refine zz_iload_n dX5_close_34 rfl ?_
    refine zz_imul dX5_close_35 ?_
    refine zz_iload_n dX5_close_36 rfl ?_
    refine zz_iadd dX5_close_37 ?_
    refine zz_tope (y := nI (80 * i + i)) (by simp only [i80, i6400, pk_mul, nI_add, nI_1]) ?_
    refine zz_aload_n dX5_close_38 rfl ?_
    refine zz_get (ci := 5) (j := 4) zz_inX5 rfl zw_f_X5_20 rfl (by decide) dX5_close_39 (by omega) pm_o rfl ?_
    refine zz_bipush (v := 80) dX5_close_42 (by decide) ?_
    refine zz_iload_n dX5_close_44 rfl ?_
    refine zz_imul dX5_close_45 ?_
    refine zz_iload_n dX5_close_46 rfl ?_
    refine zz_iadd dX5_close_47 ?_
    refine zz_tope (y := nI (80 * i + i)) (by simp only [i80, i6400, pk_mul, nI_add, nI_1]) ?_
    refine zl_mb dX5_close_48 (by omega) (by simp only [ml55, ml56, ml57, ml58, ml59, ml60, ml61]; omega) (by simp only [ml55, ml56, ml57, ml58, ml59, ml60, ml61]; omega) ?_
    simp only [up_at]
    rw [gs0_get hn (show i < n by omega) (show i < n by omega), ownG_at]
    refine zz_if_ne (tgt := 56) dX5_close_49 (by decide) (fun h49 => ?_) (fun h49 => ?_)
    · refine zz_iconst (v := 1) dX5_close_56 (by decide) ?_
      refine zz_goto (tgt := 61) dX5_close_57 (by decide) ?_
      refine zz_tope (y := zB (rchB (rl MB r) n i i || ow)) (by first | (rw [zB_n.mp h49]; rfl) | (rw [zB_0.mp h49, zB_0.mp h53]; rfl) | (rw [zB_0.mp h49, zB_n.mp h53]; rfl)) ?_
      refine zs_mb dX5_close_61 (by omega) (by simp only [ml55, ml56, ml57, ml58, ml59, ml60, ml61]; omega) (by simp only [ml55, ml56, ml57, ml58, ml59, ml60, ml61]; omega) ?_
      refine zz_iinc (v := nI (i + 1)) dX5_close_62 rfl (nI_1 i) (by decide) ?_
      refine zz_goto (tgt := 20) dX5_close_65 (by decide) ?_
      have h9 := ih (i + 1) (by omega)
      rw [← ownG_s hn (show i < n by omega)] at h9
      simp only [up_at, up_up]
      exact h9
    · refine zz_iload_n dX5_close_52 rfl ?_
      refine zz_if_eq (tgt := 60) dX5_close_53 (by decide) (fun h53 => ?_) (fun h53 => ?_)
      · refine zz_iconst (v := 0) dX5_close_60 (by decide) ?_
        refine zz_tope (y := zB (rchB (rl MB r) n i i || ow)) (by first | (rw [zB_n.mp h49]; rfl) | (rw [zB_0.mp h49, zB_0.mp h53]; rfl) | (rw [zB_0.mp h49, zB_n.mp h53]; rfl)) ?_
        refine zs_mb dX5_close_61 (by omega) (by simp only [ml55, ml56, ml57, ml58, ml59, ml60, ml61]; omega) (by simp only [ml55, ml56, ml57, ml58, ml59, ml60, ml61]; omega) ?_
        refine zz_iinc (v := nI (i + 1)) dX5_close_62 rfl (nI_1 i) (by decide) ?_
        refine zz_goto (tgt := 20) dX5_close_65 (by decide) ?_
        have h9 := ih (i + 1) (by omega)
        rw [← ownG_s hn (show i < n by omega)] at h9
        simp only [up_at, up_up]
        exact h9
      · refine zz_iconst (v := 1) dX5_close_56 (by decide) ?_
        refine zz_goto (tgt := 61) dX5_close_57 (by decide) ?_
        refine zz_tope (y := zB (rchB (rl MB r) n i i || ow)) (by first | (rw [zB_n.mp h49]; rfl) | (rw [zB_0.mp h49, zB_0.mp h53]; rfl) | (rw [zB_0.mp h49, zB_n.mp h53]; rfl)) ?_
        refine zs_mb dX5_close_61 (by omega) (by simp only [ml55, ml56, ml57, ml58, ml59, ml60, ml61]; omega) (by simp only [ml55, ml56, ml57, ml58, ml59, ml60, ml61]; omega) ?_
        refine zz_iinc (v := nI (i + 1)) dX5_close_62 rfl (nI_1 i) (by decide) ?_
        refine zz_goto (tgt := 20) dX5_close_65 (by decide) ?_
        have h9 := ih (i + 1) (by omega)
        rw [← ownG_s hn (show i < n by omega)] at h9
        simp only [up_at, up_up]
        exact h9
set_option maxHeartbeats 1000000 in
set_option maxRecDepth 20000 in
theorem m_close_v {r : Nat} (hr : r < 4) (hn : n ≤ 80) (ow : Bool) : zz_C mX5_close 5 0 0 [.ref 54, .int (nI r), .int (zB ow)] (pm MB MI (nI n) mt T) (zmQ n T (gs (MB 55) r n n 0 (ownG (rchB (rl MB r) n) ow n)) (MB 56) 0 (some (.int (nI (prB (gs (MB 55) r n n 0 (ownG (rchB (rl MB r) n) ow n)) n r))))) := by
  have e1 := isR_t hr
  · refine zz_start wPX5_close rfl rfl (Nat.le_of_ble_eq_true rfl) ?_
    refine zz_iload_n dX5_close_0 rfl ?_
    refine zz_callS1 (m_isR _) dX5_close_1 zw_m_X5_55 wYX5_isRelation wDX5_isRelation rfl (Nat.le_of_ble_eq_true rfl) (by decide) rfl ?_
    refine zz_if_ne (tgt := 13) dX5_close_4 (by decide) (fun _ => ?_) (fun q => absurd q (by rw [e1]; decide))
    refine zz_aload_n dX5_close_13 rfl ?_
    refine zz_iload_n dX5_close_14 rfl ?_
    refine zz_callV (ci := 5) (m_closes hr hn) dX5_close_15 zw_m_X5_108 wYX5_closes wDX5_closes rfl (by omega) pm_o rfl (Nat.le_of_ble_eq_true rfl) (by decide) (by omega) (by omega) rfl ?_ (fun E τ hE => by cases hE.1)
    rintro v9 τ9 ⟨hv9, MI2, rfl⟩
    cases hv9
    refine zz_iconst (v := 0) dX5_close_18 (by decide) ?_
    refine zz_istore_n dX5_close_19 (by decide) ?_
    have h9 := ml_cls (MB := MB) (MI := MI2) (mt := mt) (T := T) hr hn ow (S := MB 57) n 0 (by omega)
    rw [ownG_0] at h9
    exact h9
set_option maxHeartbeats 1000000 in
set_option maxRecDepth 20000 in
theorem m_close_x {v : Int32} (h : isR v = false) (ow : Bool) : zz_C mX5_close 5 0 0 [.ref 54, .int v, .int (zB ow)] (pm MB MI (nI n) mt T) (fun o τ => o = .inl (some (.int 0)) ∧ τ = pm MB MI (nI n) 1 T) := by
  · refine zz_start wPX5_close rfl rfl (Nat.le_of_ble_eq_true rfl) ?_
    refine zz_iload_n dX5_close_0 rfl ?_
    refine zz_callS1 (m_isR _) dX5_close_1 zw_m_X5_55 wYX5_isRelation wDX5_isRelation rfl (Nat.le_of_ble_eq_true rfl) (by decide) rfl ?_
    refine zz_if_ne (tgt := 13) dX5_close_4 (by decide) (fun q => absurd (by rw [h]; rfl) q) (fun _ => ?_)
    refine zz_aload_n dX5_close_7 rfl ?_
    refine zz_iconst (v := 1) dX5_close_8 (by decide) ?_
    refine zz_callV1 (ci := 5) (m_refuse 1) dX5_close_9 zw_m_X5_77 wYX5_refuse wDX5_refuse rfl (by omega) pm_o rfl (Nat.le_of_ble_eq_true rfl) (by decide) rfl ?_
    refine zz_iret dX5_close_12 rfl ?_
    exact ⟨rfl, rfl⟩
end ZZM10
