section ZZM5
variable {MB : Nat → Nat → Bool} {MI : Nat → Nat → Int32} {n : Nat} {mt : Int32} {T : zz_St}
theorem rng_g {f : Nat → Bool} {r w i : Nat} {g : Nat → Bool} (hi : i < 6400) : rng f (6400 * w) 0 i g (6400 * r + i) = f (6400 * r + i) := by
  unfold rng; rw [if_neg (by omega)]
set_option maxHeartbeats 1000000 in
set_option maxRecDepth 20000 in
theorem ml_copy {r w : Nat} (hr : r < 4) (hw : w < 4) (hn : n ≤ 80) : ∀ (m i : Nat), i + m = 6400 → zz_E mX5_copy none 4 0 0 (fun o τ => o = .inl (some (.int (nI (sm (fun j => cnt (fun k => (rng (MB 55) (6400 * w) 0 6400 (fun x => MB 55 (6400 * r + (x - 6400 * w)))) (6400 * w + 80 * j + k)) n) n)))) ∧ τ = pm (va_up MB 55 (rng (MB 55) (6400 * w) 0 6400 (fun x => MB 55 (6400 * r + (x - 6400 * w))))) MI (nI n) 0 T) 22 [(3, .int (nI i)), (0, .ref 54), (1, .int (nI r)), (2, .int (nI w))] [] (pm (va_up MB 55 (rng (MB 55) (6400 * w) 0 i (fun x => MB 55 (6400 * r + (x - 6400 * w))))) MI (nI n) mt T) := by
  intro m
  induction m with
  | zero =>
    intro i hi
    have hi : i = 6400 := by omega
    subst hi
    refine zz_iload_n dX5_copy_22 rfl ?_
    refine zz_sipush (v := 6400) dX5_copy_23 (by decide) ?_
    refine zz_icmp_ge (tgt := 59) dX5_copy_26 (by decide) (fun _ => ?_) (fun h => absurd (nI_le (a := 6400) (by omega) (by omega)) h)
    refine zz_aload_n dX5_copy_59 rfl ?_
    refine zz_aload_n dX5_copy_60 rfl ?_
    refine zz_iload_n dX5_copy_61 rfl ?_
    refine zz_callV1 (ci := 5) (m_pairs hw hn) dX5_copy_62 zw_m_X5_73 wYX5_pairs wDX5_pairs rfl (by omega) pm_o rfl (Nat.le_of_ble_eq_true rfl) (by decide) rfl ?_
    refine zz_callV1 (ci := 5) (m_told _) dX5_copy_65 zw_m_X5_80 wYX5_told wDX5_told rfl (by omega) pm_o rfl (Nat.le_of_ble_eq_true rfl) (by decide) rfl ?_
    refine zz_iret dX5_copy_68 rfl ?_
    exact ⟨by simp only [up_at], rfl⟩
  | succ m ih =>
    intro i hi
    refine zz_iload_n dX5_copy_22 rfl ?_
    refine zz_sipush (v := 6400) dX5_copy_23 (by decide) ?_
    refine zz_icmp_ge (tgt := 59) dX5_copy_26 (by decide) (fun h => absurd h (nI_ge (b := 6400) (by omega) (by omega))) (fun _ => ?_)
    refine zz_aload_n dX5_copy_29 rfl ?_
    refine zz_get (ci := 5) (j := 0) zz_inX5 rfl zw_f_X5_7 rfl (by decide) dX5_copy_30 (by omega) pm_o rfl ?_
    refine zz_sipush (v := 6400) dX5_copy_33 (by decide) ?_
    refine zz_iload_n dX5_copy_36 rfl ?_
    refine zz_imul dX5_copy_37 ?_
    refine zz_iload_n dX5_copy_38 rfl ?_
    refine zz_iadd dX5_copy_39 ?_
    refine zz_tope (y := nI (6400 * w + i)) (by simp only [i80, i6400, pk_mul, nI_add, nI_1]) ?_
    refine zz_aload_n dX5_copy_40 rfl ?_
    refine zz_get (ci := 5) (j := 0) zz_inX5 rfl zw_f_X5_7 rfl (by decide) dX5_copy_41 (by omega) pm_o rfl ?_
    refine zz_sipush (v := 6400) dX5_copy_44 (by decide) ?_
    refine zz_iload_n dX5_copy_47 rfl ?_
    refine zz_imul dX5_copy_48 ?_
    refine zz_iload_n dX5_copy_49 rfl ?_
    refine zz_iadd dX5_copy_50 ?_
    refine zz_tope (y := nI (6400 * r + i)) (by simp only [i80, i6400, pk_mul, nI_add, nI_1]) ?_
    refine zl_mb dX5_copy_51 (by omega) (by simp only [ml55, ml56, ml57, ml58, ml59, ml60, ml61]; omega) (by simp only [ml55, ml56, ml57, ml58, ml59, ml60, ml61]; omega) ?_
    refine zs_mb dX5_copy_52 (by omega) (by simp only [ml55, ml56, ml57, ml58, ml59, ml60, ml61]; omega) (by simp only [ml55, ml56, ml57, ml58, ml59, ml60, ml61]; omega) ?_
    refine zz_iinc (v := nI (i + 1)) dX5_copy_53 rfl (nI_1 i) (by decide) ?_
    refine zz_goto (tgt := 22) dX5_copy_56 (by decide) ?_
    have h9 := ih (i + 1) (by omega)
    rw [← rng_s _ _ _ _ _ (Nat.zero_le i)] at h9
    simp only [up_at, up_up, rng_g (show i < 6400 by omega)]
    simp only [Nat.add_sub_cancel_left] at h9
    exact h9
set_option maxHeartbeats 1000000 in
set_option maxRecDepth 20000 in
theorem m_copy_v {r w : Nat} (hr : r < 4) (hw : w < 4) (hn : n ≤ 80) : zz_C mX5_copy 4 0 0 [.ref 54, .int (nI r), .int (nI w)] (pm MB MI (nI n) mt T) (fun o τ => o = .inl (some (.int (nI (sm (fun j => cnt (fun k => (rng (MB 55) (6400 * w) 0 6400 (fun x => MB 55 (6400 * r + (x - 6400 * w)))) (6400 * w + 80 * j + k)) n) n)))) ∧ τ = pm (va_up MB 55 (rng (MB 55) (6400 * w) 0 6400 (fun x => MB 55 (6400 * r + (x - 6400 * w))))) MI (nI n) 0 T) := by
  have e1 := isR_t hr
  have e2 := isR_t hw
  · refine zz_start wPX5_copy rfl rfl (Nat.le_of_ble_eq_true rfl) ?_
    refine zz_iload_n dX5_copy_0 rfl ?_
    refine zz_callS1 (m_isR _) dX5_copy_1 zw_m_X5_55 wYX5_isRelation wDX5_isRelation rfl (Nat.le_of_ble_eq_true rfl) (by decide) rfl ?_
    refine zz_if_eq (tgt := 14) dX5_copy_4 (by decide) (fun q => absurd q (by rw [e1]; decide)) (fun _ => ?_)
    refine zz_iload_n dX5_copy_7 rfl ?_
    refine zz_callS1 (m_isR _) dX5_copy_8 zw_m_X5_55 wYX5_isRelation wDX5_isRelation rfl (Nat.le_of_ble_eq_true rfl) (by decide) rfl ?_
    refine zz_if_ne (tgt := 20) dX5_copy_11 (by decide) (fun _ => ?_) (fun q => absurd q (by rw [e2]; decide))
    refine zz_iconst (v := 0) dX5_copy_20 (by decide) ?_
    refine zz_istore_n dX5_copy_21 (by decide) ?_
    have h9 := ml_copy (MB := MB) (MI := MI) (mt := mt) (T := T) hr hw hn 6400 0 (by omega)
    rw [rng_0, up_self] at h9
    exact h9
set_option maxHeartbeats 1000000 in
set_option maxRecDepth 20000 in
theorem m_copy_x {v u : Int32} (h : (isR v && isR u) = false) : zz_C mX5_copy 4 0 0 [.ref 54, .int v, .int u] (pm MB MI (nI n) mt T) (fun o τ => o = .inl (some (.int 0)) ∧ τ = pm MB MI (nI n) 1 T) := by
  rcases and_f h with h1 | ⟨h1, h2⟩
  · refine zz_start wPX5_copy rfl rfl (Nat.le_of_ble_eq_true rfl) ?_
    refine zz_iload_n dX5_copy_0 rfl ?_
    refine zz_callS1 (m_isR _) dX5_copy_1 zw_m_X5_55 wYX5_isRelation wDX5_isRelation rfl (Nat.le_of_ble_eq_true rfl) (by decide) rfl ?_
    refine zz_if_eq (tgt := 14) dX5_copy_4 (by decide) (fun _ => ?_) (fun q => absurd (by rw [h1]; rfl) q)
    refine zz_aload_n dX5_copy_14 rfl ?_
    refine zz_iconst (v := 1) dX5_copy_15 (by decide) ?_
    refine zz_callV1 (ci := 5) (m_refuse 1) dX5_copy_16 zw_m_X5_77 wYX5_refuse wDX5_refuse rfl (by omega) pm_o rfl (Nat.le_of_ble_eq_true rfl) (by decide) rfl ?_
    refine zz_iret dX5_copy_19 rfl ?_
    exact ⟨rfl, rfl⟩
  · refine zz_start wPX5_copy rfl rfl (Nat.le_of_ble_eq_true rfl) ?_
    refine zz_iload_n dX5_copy_0 rfl ?_
    refine zz_callS1 (m_isR _) dX5_copy_1 zw_m_X5_55 wYX5_isRelation wDX5_isRelation rfl (Nat.le_of_ble_eq_true rfl) (by decide) rfl ?_
    refine zz_if_eq (tgt := 14) dX5_copy_4 (by decide) (fun q => absurd q (by rw [h1]; decide)) (fun _ => ?_)
    refine zz_iload_n dX5_copy_7 rfl ?_
    refine zz_callS1 (m_isR _) dX5_copy_8 zw_m_X5_55 wYX5_isRelation wDX5_isRelation rfl (Nat.le_of_ble_eq_true rfl) (by decide) rfl ?_
    refine zz_if_ne (tgt := 20) dX5_copy_11 (by decide) (fun q => absurd (by rw [h2]; rfl) q) (fun _ => ?_)
    refine zz_aload_n dX5_copy_14 rfl ?_
    refine zz_iconst (v := 1) dX5_copy_15 (by decide) ?_
    refine zz_callV1 (ci := 5) (m_refuse 1) dX5_copy_16 zw_m_X5_77 wYX5_refuse wDX5_refuse rfl (by omega) pm_o rfl (Nat.le_of_ble_eq_true rfl) (by decide) rfl ?_
    refine zz_iret dX5_copy_19 rfl ?_
    exact ⟨rfl, rfl⟩
def cmb (h : Nat) (a b : Bool) : Bool := if h = 0 then a || b else if h = 1 then a && b else if h = 2 then a && !b else a != b
set_option maxHeartbeats 1000000 in
set_option maxRecDepth 20000 in
theorem ml_cmbV {Q : zz_Q} {σ : zz_St} {st : List Value} {r w h i : Nat} (hh : h < 4) (x y : Bool) (K : zz_E mX5_combine none 4 0 0 Q 168 [(6, .int (zB y)), (5, .int (zB x)), (4, .int (nI i)), (0, .ref 54), (1, .int (nI r)), (2, .int (nI w)), (3, .int (nI h))] (.int (zB (cmb h x y)) :: st) σ) : zz_E mX5_combine none 4 0 0 Q 88 [(6, .int (zB y)), (5, .int (zB x)), (4, .int (nI i)), (0, .ref 54), (1, .int (nI r)), (2, .int (nI w)), (3, .int (nI h))] st σ := by
  rcases (show h = 0 ∨ h = 1 ∨ h = 2 ∨ h = 3 by omega) with rfl | rfl | rfl | rfl
  · cases x <;> cases y
    · refine zz_iload_n dX5_combine_88 rfl ?_
      refine zz_if_ne (tgt := 110) dX5_combine_89 (by decide) (fun q => absurd rfl q) (fun _ => ?_)
      refine zz_iload dX5_combine_92 rfl ?_
      refine zz_if_ne (tgt := 102) dX5_combine_94 (by decide) (fun q => absurd rfl q) (fun _ => ?_)
      refine zz_iload dX5_combine_97 rfl ?_
      refine zz_if_eq (tgt := 106) dX5_combine_99 (by decide) (fun _ => ?_) (fun q => absurd rfl q)
      refine zz_iconst (v := 0) dX5_combine_106 (by decide) ?_
      refine zz_goto (tgt := 168) dX5_combine_107 (by decide) ?_
      exact K
    · refine zz_iload_n dX5_combine_88 rfl ?_
      refine zz_if_ne (tgt := 110) dX5_combine_89 (by decide) (fun q => absurd rfl q) (fun _ => ?_)
      refine zz_iload dX5_combine_92 rfl ?_
      refine zz_if_ne (tgt := 102) dX5_combine_94 (by decide) (fun q => absurd rfl q) (fun _ => ?_)
      refine zz_iload dX5_combine_97 rfl ?_
      refine zz_if_eq (tgt := 106) dX5_combine_99 (by decide) (fun q => absurd q (by decide)) (fun _ => ?_)
      refine zz_iconst (v := 1) dX5_combine_102 (by decide) ?_
      refine zz_goto (tgt := 168) dX5_combine_103 (by decide) ?_
      exact K
    · refine zz_iload_n dX5_combine_88 rfl ?_
      refine zz_if_ne (tgt := 110) dX5_combine_89 (by decide) (fun q => absurd rfl q) (fun _ => ?_)
      refine zz_iload dX5_combine_92 rfl ?_
      refine zz_if_ne (tgt := 102) dX5_combine_94 (by decide) (fun _ => ?_) (fun q => absurd q (by decide))
      refine zz_iconst (v := 1) dX5_combine_102 (by decide) ?_
      refine zz_goto (tgt := 168) dX5_combine_103 (by decide) ?_
      exact K
    · refine zz_iload_n dX5_combine_88 rfl ?_
      refine zz_if_ne (tgt := 110) dX5_combine_89 (by decide) (fun q => absurd rfl q) (fun _ => ?_)
      refine zz_iload dX5_combine_92 rfl ?_
      refine zz_if_ne (tgt := 102) dX5_combine_94 (by decide) (fun _ => ?_) (fun q => absurd q (by decide))
      refine zz_iconst (v := 1) dX5_combine_102 (by decide) ?_
      refine zz_goto (tgt := 168) dX5_combine_103 (by decide) ?_
      exact K
  · cases x <;> cases y
    · refine zz_iload_n dX5_combine_88 rfl ?_
      refine zz_if_ne (tgt := 110) dX5_combine_89 (by decide) (fun _ => ?_) (fun q => absurd q (by decide))
      refine zz_iload_n dX5_combine_110 rfl ?_
      refine zz_iconst (v := 1) dX5_combine_111 (by decide) ?_
      refine zz_icmp_ne (tgt := 133) dX5_combine_112 (by decide) (fun q => absurd rfl q) (fun _ => ?_)
      refine zz_iload dX5_combine_115 rfl ?_
      refine zz_if_eq (tgt := 129) dX5_combine_117 (by decide) (fun _ => ?_) (fun q => absurd rfl q)
      refine zz_iconst (v := 0) dX5_combine_129 (by decide) ?_
      refine zz_goto (tgt := 168) dX5_combine_130 (by decide) ?_
      exact K
    · refine zz_iload_n dX5_combine_88 rfl ?_
      refine zz_if_ne (tgt := 110) dX5_combine_89 (by decide) (fun _ => ?_) (fun q => absurd q (by decide))
      refine zz_iload_n dX5_combine_110 rfl ?_
      refine zz_iconst (v := 1) dX5_combine_111 (by decide) ?_
      refine zz_icmp_ne (tgt := 133) dX5_combine_112 (by decide) (fun q => absurd rfl q) (fun _ => ?_)
      refine zz_iload dX5_combine_115 rfl ?_
      refine zz_if_eq (tgt := 129) dX5_combine_117 (by decide) (fun _ => ?_) (fun q => absurd rfl q)
      refine zz_iconst (v := 0) dX5_combine_129 (by decide) ?_
      refine zz_goto (tgt := 168) dX5_combine_130 (by decide) ?_
      exact K
    · refine zz_iload_n dX5_combine_88 rfl ?_
      refine zz_if_ne (tgt := 110) dX5_combine_89 (by decide) (fun _ => ?_) (fun q => absurd q (by decide))
      refine zz_iload_n dX5_combine_110 rfl ?_
      refine zz_iconst (v := 1) dX5_combine_111 (by decide) ?_
      refine zz_icmp_ne (tgt := 133) dX5_combine_112 (by decide) (fun q => absurd rfl q) (fun _ => ?_)
      refine zz_iload dX5_combine_115 rfl ?_
      refine zz_if_eq (tgt := 129) dX5_combine_117 (by decide) (fun q => absurd q (by decide)) (fun _ => ?_)
      refine zz_iload dX5_combine_120 rfl ?_
      refine zz_if_eq (tgt := 129) dX5_combine_122 (by decide) (fun _ => ?_) (fun q => absurd rfl q)
      refine zz_iconst (v := 0) dX5_combine_129 (by decide) ?_
      refine zz_goto (tgt := 168) dX5_combine_130 (by decide) ?_
      exact K
    · refine zz_iload_n dX5_combine_88 rfl ?_
      refine zz_if_ne (tgt := 110) dX5_combine_89 (by decide) (fun _ => ?_) (fun q => absurd q (by decide))
      refine zz_iload_n dX5_combine_110 rfl ?_
      refine zz_iconst (v := 1) dX5_combine_111 (by decide) ?_
      refine zz_icmp_ne (tgt := 133) dX5_combine_112 (by decide) (fun q => absurd rfl q) (fun _ => ?_)
      refine zz_iload dX5_combine_115 rfl ?_
      refine zz_if_eq (tgt := 129) dX5_combine_117 (by decide) (fun q => absurd q (by decide)) (fun _ => ?_)
      refine zz_iload dX5_combine_120 rfl ?_
      refine zz_if_eq (tgt := 129) dX5_combine_122 (by decide) (fun q => absurd q (by decide)) (fun _ => ?_)
      refine zz_iconst (v := 1) dX5_combine_125 (by decide) ?_
      refine zz_goto (tgt := 168) dX5_combine_126 (by decide) ?_
      exact K
  · cases x <;> cases y
    · refine zz_iload_n dX5_combine_88 rfl ?_
      refine zz_if_ne (tgt := 110) dX5_combine_89 (by decide) (fun _ => ?_) (fun q => absurd q (by decide))
      refine zz_iload_n dX5_combine_110 rfl ?_
      refine zz_iconst (v := 1) dX5_combine_111 (by decide) ?_
      refine zz_icmp_ne (tgt := 133) dX5_combine_112 (by decide) (fun _ => ?_) (fun q => absurd q (by decide))
      refine zz_iload_n dX5_combine_133 rfl ?_
      refine zz_iconst (v := 2) dX5_combine_134 (by decide) ?_
      refine zz_icmp_ne (tgt := 156) dX5_combine_135 (by decide) (fun q => absurd rfl q) (fun _ => ?_)
      refine zz_iload dX5_combine_138 rfl ?_
      refine zz_if_eq (tgt := 152) dX5_combine_140 (by decide) (fun _ => ?_) (fun q => absurd rfl q)
      refine zz_iconst (v := 0) dX5_combine_152 (by decide) ?_
      refine zz_goto (tgt := 168) dX5_combine_153 (by decide) ?_
      exact K
    · refine zz_iload_n dX5_combine_88 rfl ?_
      refine zz_if_ne (tgt := 110) dX5_combine_89 (by decide) (fun _ => ?_) (fun q => absurd q (by decide))
      refine zz_iload_n dX5_combine_110 rfl ?_
      refine zz_iconst (v := 1) dX5_combine_111 (by decide) ?_
      refine zz_icmp_ne (tgt := 133) dX5_combine_112 (by decide) (fun _ => ?_) (fun q => absurd q (by decide))
      refine zz_iload_n dX5_combine_133 rfl ?_
      refine zz_iconst (v := 2) dX5_combine_134 (by decide) ?_
      refine zz_icmp_ne (tgt := 156) dX5_combine_135 (by decide) (fun q => absurd rfl q) (fun _ => ?_)
      refine zz_iload dX5_combine_138 rfl ?_
      refine zz_if_eq (tgt := 152) dX5_combine_140 (by decide) (fun _ => ?_) (fun q => absurd rfl q)
      refine zz_iconst (v := 0) dX5_combine_152 (by decide) ?_
      refine zz_goto (tgt := 168) dX5_combine_153 (by decide) ?_
      exact K
    · refine zz_iload_n dX5_combine_88 rfl ?_
      refine zz_if_ne (tgt := 110) dX5_combine_89 (by decide) (fun _ => ?_) (fun q => absurd q (by decide))
      refine zz_iload_n dX5_combine_110 rfl ?_
      refine zz_iconst (v := 1) dX5_combine_111 (by decide) ?_
      refine zz_icmp_ne (tgt := 133) dX5_combine_112 (by decide) (fun _ => ?_) (fun q => absurd q (by decide))
      refine zz_iload_n dX5_combine_133 rfl ?_
      refine zz_iconst (v := 2) dX5_combine_134 (by decide) ?_
      refine zz_icmp_ne (tgt := 156) dX5_combine_135 (by decide) (fun q => absurd rfl q) (fun _ => ?_)
      refine zz_iload dX5_combine_138 rfl ?_
      refine zz_if_eq (tgt := 152) dX5_combine_140 (by decide) (fun q => absurd q (by decide)) (fun _ => ?_)
      refine zz_iload dX5_combine_143 rfl ?_
      refine zz_if_ne (tgt := 152) dX5_combine_145 (by decide) (fun q => absurd rfl q) (fun _ => ?_)
      refine zz_iconst (v := 1) dX5_combine_148 (by decide) ?_
      refine zz_goto (tgt := 168) dX5_combine_149 (by decide) ?_
      exact K
    · refine zz_iload_n dX5_combine_88 rfl ?_
      refine zz_if_ne (tgt := 110) dX5_combine_89 (by decide) (fun _ => ?_) (fun q => absurd q (by decide))
      refine zz_iload_n dX5_combine_110 rfl ?_
      refine zz_iconst (v := 1) dX5_combine_111 (by decide) ?_
      refine zz_icmp_ne (tgt := 133) dX5_combine_112 (by decide) (fun _ => ?_) (fun q => absurd q (by decide))
      refine zz_iload_n dX5_combine_133 rfl ?_
      refine zz_iconst (v := 2) dX5_combine_134 (by decide) ?_
      refine zz_icmp_ne (tgt := 156) dX5_combine_135 (by decide) (fun q => absurd rfl q) (fun _ => ?_)
      refine zz_iload dX5_combine_138 rfl ?_
      refine zz_if_eq (tgt := 152) dX5_combine_140 (by decide) (fun q => absurd q (by decide)) (fun _ => ?_)
      refine zz_iload dX5_combine_143 rfl ?_
      refine zz_if_ne (tgt := 152) dX5_combine_145 (by decide) (fun _ => ?_) (fun q => absurd q (by decide))
      refine zz_iconst (v := 0) dX5_combine_152 (by decide) ?_
      refine zz_goto (tgt := 168) dX5_combine_153 (by decide) ?_
      exact K
  · cases x <;> cases y
    · refine zz_iload_n dX5_combine_88 rfl ?_
      refine zz_if_ne (tgt := 110) dX5_combine_89 (by decide) (fun _ => ?_) (fun q => absurd q (by decide))
      refine zz_iload_n dX5_combine_110 rfl ?_
      refine zz_iconst (v := 1) dX5_combine_111 (by decide) ?_
      refine zz_icmp_ne (tgt := 133) dX5_combine_112 (by decide) (fun _ => ?_) (fun q => absurd q (by decide))
      refine zz_iload_n dX5_combine_133 rfl ?_
      refine zz_iconst (v := 2) dX5_combine_134 (by decide) ?_
      refine zz_icmp_ne (tgt := 156) dX5_combine_135 (by decide) (fun _ => ?_) (fun q => absurd q (by decide))
      refine zz_iload dX5_combine_156 rfl ?_
      refine zz_iload dX5_combine_158 rfl ?_
      refine zz_icmp_eq (tgt := 167) dX5_combine_160 (by decide) (fun _ => ?_) (fun q => absurd rfl q)
      refine zz_iconst (v := 0) dX5_combine_167 (by decide) ?_
      exact K
    · refine zz_iload_n dX5_combine_88 rfl ?_
      refine zz_if_ne (tgt := 110) dX5_combine_89 (by decide) (fun _ => ?_) (fun q => absurd q (by decide))
      refine zz_iload_n dX5_combine_110 rfl ?_
      refine zz_iconst (v := 1) dX5_combine_111 (by decide) ?_
      refine zz_icmp_ne (tgt := 133) dX5_combine_112 (by decide) (fun _ => ?_) (fun q => absurd q (by decide))
      refine zz_iload_n dX5_combine_133 rfl ?_
      refine zz_iconst (v := 2) dX5_combine_134 (by decide) ?_
      refine zz_icmp_ne (tgt := 156) dX5_combine_135 (by decide) (fun _ => ?_) (fun q => absurd q (by decide))
      refine zz_iload dX5_combine_156 rfl ?_
      refine zz_iload dX5_combine_158 rfl ?_
      refine zz_icmp_eq (tgt := 167) dX5_combine_160 (by decide) (fun q => absurd q (by decide)) (fun _ => ?_)
      refine zz_iconst (v := 1) dX5_combine_163 (by decide) ?_
      refine zz_goto (tgt := 168) dX5_combine_164 (by decide) ?_
      exact K
    · refine zz_iload_n dX5_combine_88 rfl ?_
      refine zz_if_ne (tgt := 110) dX5_combine_89 (by decide) (fun _ => ?_) (fun q => absurd q (by decide))
      refine zz_iload_n dX5_combine_110 rfl ?_
      refine zz_iconst (v := 1) dX5_combine_111 (by decide) ?_
      refine zz_icmp_ne (tgt := 133) dX5_combine_112 (by decide) (fun _ => ?_) (fun q => absurd q (by decide))
      refine zz_iload_n dX5_combine_133 rfl ?_
      refine zz_iconst (v := 2) dX5_combine_134 (by decide) ?_
      refine zz_icmp_ne (tgt := 156) dX5_combine_135 (by decide) (fun _ => ?_) (fun q => absurd q (by decide))
      refine zz_iload dX5_combine_156 rfl ?_
      refine zz_iload dX5_combine_158 rfl ?_
      refine zz_icmp_eq (tgt := 167) dX5_combine_160 (by decide) (fun q => absurd q (by decide)) (fun _ => ?_)
      refine zz_iconst (v := 1) dX5_combine_163 (by decide) ?_
      refine zz_goto (tgt := 168) dX5_combine_164 (by decide) ?_
      exact K
    · refine zz_iload_n dX5_combine_88 rfl ?_
      refine zz_if_ne (tgt := 110) dX5_combine_89 (by decide) (fun _ => ?_) (fun q => absurd q (by decide))
      refine zz_iload_n dX5_combine_110 rfl ?_
      refine zz_iconst (v := 1) dX5_combine_111 (by decide) ?_
      refine zz_icmp_ne (tgt := 133) dX5_combine_112 (by decide) (fun _ => ?_) (fun q => absurd q (by decide))
      refine zz_iload_n dX5_combine_133 rfl ?_
      refine zz_iconst (v := 2) dX5_combine_134 (by decide) ?_
      refine zz_icmp_ne (tgt := 156) dX5_combine_135 (by decide) (fun _ => ?_) (fun q => absurd q (by decide))
      refine zz_iload dX5_combine_156 rfl ?_
      refine zz_iload dX5_combine_158 rfl ?_
      refine zz_icmp_eq (tgt := 167) dX5_combine_160 (by decide) (fun _ => ?_) (fun q => absurd rfl q)
      refine zz_iconst (v := 0) dX5_combine_167 (by decide) ?_
      exact K
set_option maxHeartbeats 1000000 in
set_option maxRecDepth 20000 in
theorem ml_combine {r w : Nat} (hr : r < 4) (hw : w < 4) (hn : n ≤ 80) {h : Nat} (hh : h < 4) : ∀ (m i : Nat), i + m = 6400 → zz_E mX5_combine none 4 0 0 (fun o τ => o = .inl (some (.int (nI (sm (fun j => cnt (fun k => (rng (MB 55) (6400 * r) 0 6400 (fun x => cmb h (MB 55 x) (MB 55 (6400 * w + (x - 6400 * r))))) (6400 * r + 80 * j + k)) n) n)))) ∧ τ = pm (va_up MB 55 (rng (MB 55) (6400 * r) 0 6400 (fun x => cmb h (MB 55 x) (MB 55 (6400 * w + (x - 6400 * r)))))) MI (nI n) 0 T) 38 [(4, .int (nI i)), (0, .ref 54), (1, .int (nI r)), (2, .int (nI w)), (3, .int (nI h))] [] (pm (va_up MB 55 (rng (MB 55) (6400 * r) 0 i (fun x => cmb h (MB 55 x) (MB 55 (6400 * w + (x - 6400 * r)))))) MI (nI n) mt T) := by
  intro m
  induction m with
  | zero =>
    intro i hi
    have hi : i = 6400 := by omega
    subst hi
    refine zz_iload dX5_combine_38 rfl ?_
    refine zz_sipush (v := 6400) dX5_combine_40 (by decide) ?_
    refine zz_icmp_ge (tgt := 175) dX5_combine_43 (by decide) (fun _ => ?_) (fun h => absurd (nI_le (a := 6400) (by omega) (by omega)) h)
    refine zz_aload_n dX5_combine_175 rfl ?_
    refine zz_aload_n dX5_combine_176 rfl ?_
    refine zz_iload_n dX5_combine_177 rfl ?_
    refine zz_callV1 (ci := 5) (m_pairs hr hn) dX5_combine_178 zw_m_X5_73 wYX5_pairs wDX5_pairs rfl (by omega) pm_o rfl (Nat.le_of_ble_eq_true rfl) (by decide) rfl ?_
    refine zz_callV1 (ci := 5) (m_told _) dX5_combine_181 zw_m_X5_80 wYX5_told wDX5_told rfl (by omega) pm_o rfl (Nat.le_of_ble_eq_true rfl) (by decide) rfl ?_
    refine zz_iret dX5_combine_184 rfl ?_
    exact ⟨by simp only [up_at], rfl⟩
  | succ m ih =>
    intro i hi
    refine zz_iload dX5_combine_38 rfl ?_
    refine zz_sipush (v := 6400) dX5_combine_40 (by decide) ?_
    refine zz_icmp_ge (tgt := 175) dX5_combine_43 (by decide) (fun h => absurd h (nI_ge (b := 6400) (by omega) (by omega))) (fun _ => ?_)
    refine zz_aload_n dX5_combine_46 rfl ?_
    refine zz_get (ci := 5) (j := 0) zz_inX5 rfl zw_f_X5_7 rfl (by decide) dX5_combine_47 (by omega) pm_o rfl ?_
    refine zz_sipush (v := 6400) dX5_combine_50 (by decide) ?_
    refine zz_iload_n dX5_combine_53 rfl ?_
    refine zz_imul dX5_combine_54 ?_
    refine zz_iload dX5_combine_55 rfl ?_
    refine zz_iadd dX5_combine_57 ?_
    refine zz_tope (y := nI (6400 * r + i)) (by simp only [i80, i6400, pk_mul, nI_add, nI_1]) ?_
    refine zl_mb dX5_combine_58 (by omega) (by simp only [ml55, ml56, ml57, ml58, ml59, ml60, ml61]; omega) (by simp only [ml55, ml56, ml57, ml58, ml59, ml60, ml61]; omega) ?_
    refine zz_istore dX5_combine_59 (by decide) ?_
    refine zz_aload_n dX5_combine_61 rfl ?_
    refine zz_get (ci := 5) (j := 0) zz_inX5 rfl zw_f_X5_7 rfl (by decide) dX5_combine_62 (by omega) pm_o rfl ?_
    refine zz_sipush (v := 6400) dX5_combine_65 (by decide) ?_
    refine zz_iload_n dX5_combine_68 rfl ?_
    refine zz_imul dX5_combine_69 ?_
    refine zz_iload dX5_combine_70 rfl ?_
    refine zz_iadd dX5_combine_72 ?_
    refine zz_tope (y := nI (6400 * w + i)) (by simp only [i80, i6400, pk_mul, nI_add, nI_1]) ?_
    refine zl_mb dX5_combine_73 (by omega) (by simp only [ml55, ml56, ml57, ml58, ml59, ml60, ml61]; omega) (by simp only [ml55, ml56, ml57, ml58, ml59, ml60, ml61]; omega) ?_
    refine zz_istore dX5_combine_74 (by decide) ?_
    refine zz_aload_n dX5_combine_76 rfl ?_
    refine zz_get (ci := 5) (j := 0) zz_inX5 rfl zw_f_X5_7 rfl (by decide) dX5_combine_77 (by omega) pm_o rfl ?_
    refine zz_sipush (v := 6400) dX5_combine_80 (by decide) ?_
    refine zz_iload_n dX5_combine_83 rfl ?_
    refine zz_imul dX5_combine_84 ?_
    refine zz_iload dX5_combine_85 rfl ?_
    refine zz_iadd dX5_combine_87 ?_
    refine zz_tope (y := nI (6400 * r + i)) (by simp only [i6400, pk_mul, nI_add]) ?_
    refine ml_cmbV hh _ _ ?_
    refine zs_mb dX5_combine_168 (by omega) (by simp only [ml55, ml56, ml57, ml58, ml59, ml60, ml61]; omega) (by simp only [ml55, ml56, ml57, ml58, ml59, ml60, ml61]; omega) ?_
    refine zz_iinc (v := nI (i + 1)) dX5_combine_169 rfl (nI_1 i) (by decide) ?_
    refine zz_goto (tgt := 38) dX5_combine_172 (by decide) ?_
    refine zz_lvs (lv2 := [(4, .int (nI (i + 1))), (0, .ref 54), (1, .int (nI r)), (2, .int (nI w)), (3, .int (nI h))]) (fun q hq => by simp only [List.mem_cons, List.not_mem_nil, or_false] at hq; rcases hq with rfl | rfl | rfl | rfl | rfl <;> simp [zz_up1, zz_up2, Value.category]) ?_
    have h9 := ih (i + 1) (by omega)
    rw [← rng_s _ _ _ _ _ (Nat.zero_le i)] at h9
    simp only [up_at, up_up, rng_g (show i < 6400 by omega)]
    simp only [Nat.add_sub_cancel_left] at h9
    exact h9
set_option maxHeartbeats 1000000 in
set_option maxRecDepth 20000 in
theorem m_combine_v {r w : Nat} (hr : r < 4) (hw : w < 4) (hn : n ≤ 80) {h : Nat} (hh : h < 4) : zz_C mX5_combine 4 0 0 [.ref 54, .int (nI r), .int (nI w), .int (nI h)] (pm MB MI (nI n) mt T) (fun o τ => o = .inl (some (.int (nI (sm (fun j => cnt (fun k => (rng (MB 55) (6400 * r) 0 6400 (fun x => cmb h (MB 55 x) (MB 55 (6400 * w + (x - 6400 * r))))) (6400 * r + 80 * j + k)) n) n)))) ∧ τ = pm (va_up MB 55 (rng (MB 55) (6400 * r) 0 6400 (fun x => cmb h (MB 55 x) (MB 55 (6400 * w + (x - 6400 * r)))))) MI (nI n) 0 T) := by
  have e1 := isR_t hr
  have e2 := isR_t hw
  have e3 : ∀ h, h < 4 → (decide (0 ≤ nI h) && decide (nI h ≤ 3)) = true := by decide
  · refine zz_start wPX5_combine rfl rfl (Nat.le_of_ble_eq_true rfl) ?_
    refine zz_iload_n dX5_combine_0 rfl ?_
    refine zz_callS1 (m_isR _) dX5_combine_1 zw_m_X5_55 wYX5_isRelation wDX5_isRelation rfl (Nat.le_of_ble_eq_true rfl) (by decide) rfl ?_
    refine zz_if_eq (tgt := 14) dX5_combine_4 (by decide) (fun q => absurd q (by rw [e1]; decide)) (fun _ => ?_)
    refine zz_iload_n dX5_combine_7 rfl ?_
    refine zz_callS1 (m_isR _) dX5_combine_8 zw_m_X5_55 wYX5_isRelation wDX5_isRelation rfl (Nat.le_of_ble_eq_true rfl) (by decide) rfl ?_
    refine zz_if_ne (tgt := 20) dX5_combine_11 (by decide) (fun _ => ?_) (fun q => absurd q (by rw [e2]; decide))
    refine zz_iload_n dX5_combine_20 rfl ?_
    refine zz_iconst (v := 0) dX5_combine_21 (by decide) ?_
    refine zz_iconst (v := 3) dX5_combine_22 (by decide) ?_
    refine zz_callS1 (m_in (nI h) 0 3) dX5_combine_23 zw_m_X5_51 wYX5_in wDX5_in rfl (Nat.le_of_ble_eq_true rfl) (by decide) rfl ?_
    refine zz_if_ne (tgt := 35) dX5_combine_26 (by decide) (fun _ => ?_) (fun q => absurd q (by rw [e3 h hh]; decide))
    refine zz_iconst (v := 0) dX5_combine_35 (by decide) ?_
    refine zz_istore dX5_combine_36 (by decide) ?_
    have h9 := ml_combine (MB := MB) (MI := MI) (mt := mt) (T := T) hr hw hn hh 6400 0 (by omega)
    rw [rng_0, up_self] at h9
    exact h9
set_option maxHeartbeats 1000000 in
set_option maxRecDepth 20000 in
theorem m_combine_x {v u : Int32} (h : (isR v && isR u) = false) (z : Int32) : zz_C mX5_combine 4 0 0 [.ref 54, .int v, .int u, .int z] (pm MB MI (nI n) mt T) (fun o τ => o = .inl (some (.int 0)) ∧ τ = pm MB MI (nI n) 1 T) := by
  rcases and_f h with h1 | ⟨h1, h2⟩
  · refine zz_start wPX5_combine rfl rfl (Nat.le_of_ble_eq_true rfl) ?_
    refine zz_iload_n dX5_combine_0 rfl ?_
    refine zz_callS1 (m_isR _) dX5_combine_1 zw_m_X5_55 wYX5_isRelation wDX5_isRelation rfl (Nat.le_of_ble_eq_true rfl) (by decide) rfl ?_
    refine zz_if_eq (tgt := 14) dX5_combine_4 (by decide) (fun _ => ?_) (fun q => absurd (by rw [h1]; rfl) q)
    refine zz_aload_n dX5_combine_14 rfl ?_
    refine zz_iconst (v := 1) dX5_combine_15 (by decide) ?_
    refine zz_callV1 (ci := 5) (m_refuse 1) dX5_combine_16 zw_m_X5_77 wYX5_refuse wDX5_refuse rfl (by omega) pm_o rfl (Nat.le_of_ble_eq_true rfl) (by decide) rfl ?_
    refine zz_iret dX5_combine_19 rfl ?_
    exact ⟨rfl, rfl⟩
  · refine zz_start wPX5_combine rfl rfl (Nat.le_of_ble_eq_true rfl) ?_
    refine zz_iload_n dX5_combine_0 rfl ?_
    refine zz_callS1 (m_isR _) dX5_combine_1 zw_m_X5_55 wYX5_isRelation wDX5_isRelation rfl (Nat.le_of_ble_eq_true rfl) (by decide) rfl ?_
    refine zz_if_eq (tgt := 14) dX5_combine_4 (by decide) (fun q => absurd q (by rw [h1]; decide)) (fun _ => ?_)
    refine zz_iload_n dX5_combine_7 rfl ?_
    refine zz_callS1 (m_isR _) dX5_combine_8 zw_m_X5_55 wYX5_isRelation wDX5_isRelation rfl (Nat.le_of_ble_eq_true rfl) (by decide) rfl ?_
    refine zz_if_ne (tgt := 20) dX5_combine_11 (by decide) (fun q => absurd (by rw [h2]; rfl) q) (fun _ => ?_)
    refine zz_aload_n dX5_combine_14 rfl ?_
    refine zz_iconst (v := 1) dX5_combine_15 (by decide) ?_
    refine zz_callV1 (ci := 5) (m_refuse 1) dX5_combine_16 zw_m_X5_77 wYX5_refuse wDX5_refuse rfl (by omega) pm_o rfl (Nat.le_of_ble_eq_true rfl) (by decide) rfl ?_
    refine zz_iret dX5_combine_19 rfl ?_
    exact ⟨rfl, rfl⟩
set_option maxHeartbeats 1000000 in
set_option maxRecDepth 20000 in
theorem m_combine_y {r w : Nat} (hr : r < 4) (hw : w < 4) {v : Int32} (h : isR v = false) : zz_C mX5_combine 4 0 0 [.ref 54, .int (nI r), .int (nI w), .int v] (pm MB MI (nI n) mt T) (fun o τ => o = .inl (some (.int 0)) ∧ τ = pm MB MI (nI n) 2 T) := by
  have e1 := isR_t hr
  have e2 := isR_t hw
  · refine zz_start wPX5_combine rfl rfl (Nat.le_of_ble_eq_true rfl) ?_
    refine zz_iload_n dX5_combine_0 rfl ?_
    refine zz_callS1 (m_isR _) dX5_combine_1 zw_m_X5_55 wYX5_isRelation wDX5_isRelation rfl (Nat.le_of_ble_eq_true rfl) (by decide) rfl ?_
    refine zz_if_eq (tgt := 14) dX5_combine_4 (by decide) (fun q => absurd q (by rw [e1]; decide)) (fun _ => ?_)
    refine zz_iload_n dX5_combine_7 rfl ?_
    refine zz_callS1 (m_isR _) dX5_combine_8 zw_m_X5_55 wYX5_isRelation wDX5_isRelation rfl (Nat.le_of_ble_eq_true rfl) (by decide) rfl ?_
    refine zz_if_ne (tgt := 20) dX5_combine_11 (by decide) (fun _ => ?_) (fun q => absurd q (by rw [e2]; decide))
    refine zz_iload_n dX5_combine_20 rfl ?_
    refine zz_iconst (v := 0) dX5_combine_21 (by decide) ?_
    refine zz_iconst (v := 3) dX5_combine_22 (by decide) ?_
    refine zz_callS1 (m_in v 0 3) dX5_combine_23 zw_m_X5_51 wYX5_in wDX5_in rfl (Nat.le_of_ble_eq_true rfl) (by decide) rfl ?_
    refine zz_if_ne (tgt := 35) dX5_combine_26 (by decide) (fun q => absurd (by rw [show (decide (0 ≤ v) && decide (v ≤ 3)) = false from h]; rfl) q) (fun _ => ?_)
    refine zz_aload_n dX5_combine_29 rfl ?_
    refine zz_iconst (v := 2) dX5_combine_30 (by decide) ?_
    refine zz_callV1 (ci := 5) (m_refuse 2) dX5_combine_31 zw_m_X5_77 wYX5_refuse wDX5_refuse rfl (by omega) pm_o rfl (Nat.le_of_ble_eq_true rfl) (by decide) rfl ?_
    refine zz_iret dX5_combine_34 rfl ?_
    exact ⟨rfl, rfl⟩
set_option maxHeartbeats 1000000 in
set_option maxRecDepth 20000 in
theorem ml_turnI {Q : zz_Q} {r : Nat} (hr : r < 4) (hn : n ≤ 80) {a : Nat} (ha : a < n) (K : zz_E mX5_turn none 5 0 0 Q 57 [(3, .int (nI n)), (2, .int (nI a)), (0, .ref 54), (1, .int (nI r))] [] (pm (va_up MB 57 (gs (MB 57) 0 n a n (fun a b => MB 55 (6400 * r + 80 * b + a)))) MI (nI n) mt T)) : ∀ (m i : Nat), i + m = n → zz_E mX5_turn none 5 0 0 (Q) 25 [(3, .int (nI i)), (2, .int (nI a)), (0, .ref 54), (1, .int (nI r))] [] (pm (va_up MB 57 (gs (MB 57) 0 n a i (fun a b => MB 55 (6400 * r + 80 * b + a)))) MI (nI n) mt T) := by
  intro m
  induction m with
  | zero =>
    intro i hi
    have hi : i = n := by omega
    subst hi
    refine zz_iload_n dX5_turn_25 rfl ?_
    refine zz_aload_n dX5_turn_26 rfl ?_
    refine zz_get (ci := 5) (j := 2) zz_inX5 rfl zw_f_X5_16 rfl (by decide) dX5_turn_27 (by omega) pm_o rfl ?_
    refine zz_icmp_ge (tgt := 57) dX5_turn_30 (by decide) (fun _ => ?_) (fun h => absurd (nI_le (by omega) (by omega)) h)
    exact K
  | succ m ih =>
    intro i hi
    refine zz_iload_n dX5_turn_25 rfl ?_
    refine zz_aload_n dX5_turn_26 rfl ?_
    refine zz_get (ci := 5) (j := 2) zz_inX5 rfl zw_f_X5_16 rfl (by decide) dX5_turn_27 (by omega) pm_o rfl ?_
    refine zz_icmp_ge (tgt := 57) dX5_turn_30 (by decide) (fun h => absurd h (nI_ge (by omega) (by omega))) (fun _ => ?_)
    refine zz_aload_n dX5_turn_33 rfl ?_
    refine zz_get (ci := 5) (j := 4) zz_inX5 rfl zw_f_X5_20 rfl (by decide) dX5_turn_34 (by omega) pm_o rfl ?_
    refine zz_bipush (v := 80) dX5_turn_37 (by decide) ?_
    refine zz_iload_n dX5_turn_39 rfl ?_
    refine zz_imul dX5_turn_40 ?_
    refine zz_iload_n dX5_turn_41 rfl ?_
    refine zz_iadd dX5_turn_42 ?_
    refine zz_tope (y := nI (80 * a + i)) (by simp only [i80, i6400, pk_mul, nI_add, nI_1]) ?_
    refine zz_aload_n dX5_turn_43 rfl ?_
    refine zz_iload_n dX5_turn_44 rfl ?_
    refine zz_iload_n dX5_turn_45 rfl ?_
    refine zz_iload_n dX5_turn_46 rfl ?_
    refine zz_callV1 (ci := 5) (m_leads hr (show i < 80 by omega) (show a < 80 by omega)) dX5_turn_47 zw_m_X5_66 wYX5_leads wDX5_leads rfl (by omega) pm_o rfl (Nat.le_of_ble_eq_true rfl) (by decide) rfl ?_
    refine zs_mb dX5_turn_50 (by omega) (by simp only [ml55, ml56, ml57, ml58, ml59, ml60, ml61]; omega) (by simp only [ml55, ml56, ml57, ml58, ml59, ml60, ml61]; omega) ?_
    refine zz_iinc (v := nI (i + 1)) dX5_turn_51 rfl (nI_1 i) (by decide) ?_
    refine zz_goto (tgt := 25) dX5_turn_54 (by decide) ?_
    have h9 := ih (i + 1) (by omega)
    rw [← gs0_s hn ha (show i < n by omega)] at h9
    simp only [up_at, up_up, up_ne _ _ (show (55 : Nat) ≠ 57 by decide)]
    exact h9
set_option maxHeartbeats 1000000 in
set_option maxRecDepth 20000 in
theorem ml_turnO {r : Nat} (hr : r < 4) (hn : n ≤ 80) : ∀ (m i : Nat), i + m = n → zz_E mX5_turn none 5 0 0 (fun o τ => o = .inl (some (.int (nI (sm (fun j => cnt (fun k => (gs (MB 55) r n n 0 (fun a0 b0 => gs (MB 57) 0 n n 0 (fun a b => MB 55 (6400 * r + 80 * b + a)) (80 * a0 + b0))) (6400 * r + 80 * j + k)) n) n)))) ∧ τ = pm (va_up (va_up MB 57 (gs (MB 57) 0 n n 0 (fun a b => MB 55 (6400 * r + 80 * b + a)))) 55 (gs (MB 55) r n n 0 (fun a0 b0 => gs (MB 57) 0 n n 0 (fun a b => MB 55 (6400 * r + 80 * b + a)) (80 * a0 + b0)))) MI (nI n) 0 T) 15 [(2, .int (nI i)), (0, .ref 54), (1, .int (nI r))] [] (pm (va_up MB 57 (gs (MB 57) 0 n i 0 (fun a b => MB 55 (6400 * r + 80 * b + a)))) MI (nI n) mt T) := by
  intro m
  induction m with
  | zero =>
    intro i hi
    have hi : i = n := by omega
    subst hi
    refine zz_iload_n dX5_turn_15 rfl ?_
    refine zz_aload_n dX5_turn_16 rfl ?_
    refine zz_get (ci := 5) (j := 2) zz_inX5 rfl zw_f_X5_16 rfl (by decide) dX5_turn_17 (by omega) pm_o rfl ?_
    refine zz_icmp_ge (tgt := 63) dX5_turn_20 (by decide) (fun _ => ?_) (fun h => absurd (nI_le (by omega) (by omega)) h)
    refine zz_aload_n dX5_turn_63 rfl ?_
    refine zz_aload_n dX5_turn_64 rfl ?_
    refine zz_iload_n dX5_turn_65 rfl ?_
    refine zz_callV1 (ci := 5) (m_lays hr hn) dX5_turn_66 zw_m_X5_102 wYX5_lays wDX5_lays rfl (by omega) pm_o rfl (Nat.le_of_ble_eq_true rfl) (by decide) rfl ?_
    refine zz_callV1 (ci := 5) (m_told _) dX5_turn_69 zw_m_X5_80 wYX5_told wDX5_told rfl (by omega) pm_o rfl (Nat.le_of_ble_eq_true rfl) (by decide) rfl ?_
    refine zz_iret dX5_turn_72 rfl ?_
    exact ⟨by simp only [up_at, up_ne _ _ (show (55 : Nat) ≠ 57 by decide)], by simp only [up_at, up_ne _ _ (show (55 : Nat) ≠ 57 by decide)]⟩
  | succ m ih =>
    intro i hi
    refine zz_iload_n dX5_turn_15 rfl ?_
    refine zz_aload_n dX5_turn_16 rfl ?_
    refine zz_get (ci := 5) (j := 2) zz_inX5 rfl zw_f_X5_16 rfl (by decide) dX5_turn_17 (by omega) pm_o rfl ?_
    refine zz_icmp_ge (tgt := 63) dX5_turn_20 (by decide) (fun h => absurd h (nI_ge (by omega) (by omega))) (fun _ => ?_)
    refine zz_iconst (v := 0) dX5_turn_23 (by decide) ?_
    refine zz_istore_n dX5_turn_24 (by decide) ?_
    refine ml_turnI hr hn (a := i) (by omega) ?_ n 0 (by omega)
    refine zz_iinc (v := nI (i + 1)) dX5_turn_57 rfl (nI_1 i) (by decide) ?_
    refine zz_goto (tgt := 15) dX5_turn_60 (by decide) ?_
    refine zz_lvs (lv2 := [(2, .int (nI (i + 1))), (0, .ref 54), (1, .int (nI r))]) (fun q hq => by simp only [List.mem_cons, List.not_mem_nil, or_false] at hq; rcases hq with rfl | rfl | rfl <;> simp [zz_up1, zz_up2, Value.category]) ?_
    have h9 := ih (i + 1) (by omega)
    rw [← gs_row] at h9
    exact h9
set_option maxHeartbeats 1000000 in
set_option maxRecDepth 20000 in
theorem m_turn_v {r : Nat} (hr : r < 4) (hn : n ≤ 80) : zz_C mX5_turn 5 0 0 [.ref 54, .int (nI r)] (pm MB MI (nI n) mt T) (fun o τ => o = .inl (some (.int (nI (sm (fun j => cnt (fun k => (gs (MB 55) r n n 0 (fun a0 b0 => gs (MB 57) 0 n n 0 (fun a b => MB 55 (6400 * r + 80 * b + a)) (80 * a0 + b0))) (6400 * r + 80 * j + k)) n) n)))) ∧ τ = pm (va_up (va_up MB 57 (gs (MB 57) 0 n n 0 (fun a b => MB 55 (6400 * r + 80 * b + a)))) 55 (gs (MB 55) r n n 0 (fun a0 b0 => gs (MB 57) 0 n n 0 (fun a b => MB 55 (6400 * r + 80 * b + a)) (80 * a0 + b0)))) MI (nI n) 0 T) := by
  have e1 := isR_t hr
  · refine zz_start wPX5_turn rfl rfl (Nat.le_of_ble_eq_true rfl) ?_
    refine zz_iload_n dX5_turn_0 rfl ?_
    refine zz_callS1 (m_isR _) dX5_turn_1 zw_m_X5_55 wYX5_isRelation wDX5_isRelation rfl (Nat.le_of_ble_eq_true rfl) (by decide) rfl ?_
    refine zz_if_ne (tgt := 13) dX5_turn_4 (by decide) (fun _ => ?_) (fun q => absurd q (by rw [e1]; decide))
    refine zz_iconst (v := 0) dX5_turn_13 (by decide) ?_
    refine zz_istore_n dX5_turn_14 (by decide) ?_
    have h9 := ml_turnO (MB := MB) (MI := MI) (mt := mt) (T := T) hr hn n 0 (by omega)
    rw [gs_0, up_self] at h9
    exact h9
set_option maxHeartbeats 1000000 in
set_option maxRecDepth 20000 in
theorem m_turn_x {v : Int32} (h : isR v = false) : zz_C mX5_turn 5 0 0 [.ref 54, .int v] (pm MB MI (nI n) mt T) (fun o τ => o = .inl (some (.int 0)) ∧ τ = pm MB MI (nI n) 1 T) := by
  · refine zz_start wPX5_turn rfl rfl (Nat.le_of_ble_eq_true rfl) ?_
    refine zz_iload_n dX5_turn_0 rfl ?_
    refine zz_callS1 (m_isR _) dX5_turn_1 zw_m_X5_55 wYX5_isRelation wDX5_isRelation rfl (Nat.le_of_ble_eq_true rfl) (by decide) rfl ?_
    refine zz_if_ne (tgt := 13) dX5_turn_4 (by decide) (fun q => absurd (by rw [h]; rfl) q) (fun _ => ?_)
    refine zz_aload_n dX5_turn_7 rfl ?_
    refine zz_iconst (v := 1) dX5_turn_8 (by decide) ?_
    refine zz_callV1 (ci := 5) (m_refuse 1) dX5_turn_9 zw_m_X5_77 wYX5_refuse wDX5_refuse rfl (by omega) pm_o rfl (Nat.le_of_ble_eq_true rfl) (by decide) rfl ?_
    refine zz_iret dX5_turn_12 rfl ?_
    exact ⟨rfl, rfl⟩
set_option maxHeartbeats 1000000 in
set_option maxRecDepth 20000 in
theorem ml_oppI {Q : zz_Q} {r : Nat} (hr : r < 4) (hn : n ≤ 80) {a : Nat} (ha : a < n) (K : zz_E mX5_oppose none 4 0 0 Q 65 [(3, .int (nI n)), (2, .int (nI a)), (0, .ref 54), (1, .int (nI r))] [] (pm (va_up MB 55 (gs (MB 55) r n a n (fun a b => !(MB 55 (6400 * r + 80 * a + b))))) MI (nI n) mt T)) : ∀ (m i : Nat), i + m = n → zz_E mX5_oppose none 4 0 0 (Q) 25 [(3, .int (nI i)), (2, .int (nI a)), (0, .ref 54), (1, .int (nI r))] [] (pm (va_up MB 55 (gs (MB 55) r n a i (fun a b => !(MB 55 (6400 * r + 80 * a + b))))) MI (nI n) mt T) := by
  intro m
  induction m with
  | zero =>
    intro i hi
    have hi : i = n := by omega
    subst hi
    refine zz_iload_n dX5_oppose_25 rfl ?_
    refine zz_aload_n dX5_oppose_26 rfl ?_
    refine zz_get (ci := 5) (j := 2) zz_inX5 rfl zw_f_X5_16 rfl (by decide) dX5_oppose_27 (by omega) pm_o rfl ?_
    refine zz_icmp_ge (tgt := 65) dX5_oppose_30 (by decide) (fun _ => ?_) (fun h => absurd (nI_le (by omega) (by omega)) h)
    exact K
  | succ m ih =>
    intro i hi
    refine zz_iload_n dX5_oppose_25 rfl ?_
    refine zz_aload_n dX5_oppose_26 rfl ?_
    refine zz_get (ci := 5) (j := 2) zz_inX5 rfl zw_f_X5_16 rfl (by decide) dX5_oppose_27 (by omega) pm_o rfl ?_
    refine zz_icmp_ge (tgt := 65) dX5_oppose_30 (by decide) (fun h => absurd h (nI_ge (by omega) (by omega))) (fun _ => ?_)
    refine zz_aload_n dX5_oppose_33 rfl ?_
    refine zz_get (ci := 5) (j := 0) zz_inX5 rfl zw_f_X5_7 rfl (by decide) dX5_oppose_34 (by omega) pm_o rfl ?_
    refine zz_iload_n dX5_oppose_37 rfl ?_
    refine zz_iload_n dX5_oppose_38 rfl ?_
    refine zz_iload_n dX5_oppose_39 rfl ?_
    refine zz_callS1 (m_place r a i) dX5_oppose_40 zw_m_X5_62 wYX5_place wDX5_place rfl (Nat.le_of_ble_eq_true rfl) (by decide) rfl ?_
    refine zz_aload_n dX5_oppose_43 rfl ?_
    refine zz_iload_n dX5_oppose_44 rfl ?_
    refine zz_iload_n dX5_oppose_45 rfl ?_
    refine zz_iload_n dX5_oppose_46 rfl ?_
    refine zz_callV1 (ci := 5) (m_leads hr (show a < 80 by omega) (show i < 80 by omega)) dX5_oppose_47 zw_m_X5_66 wYX5_leads wDX5_leads rfl (by omega) pm_o rfl (Nat.le_of_ble_eq_true rfl) (by decide) rfl ?_
    have e7 : gs (MB 55) r n a i (fun a b => !(MB 55 (6400 * r + 80 * a + b))) (6400 * r + 80 * a + i) = MB 55 (6400 * r + 80 * a + i) := gs_at hn (show i < n by omega)
    simp only [up_at, e7]
    suffices K2 : zz_E mX5_oppose none 4 0 0 Q 58 [(3, .int (nI i)), (2, .int (nI a)), (0, .ref 54), (1, .int (nI r))] [.int (zB (!(MB 55 (6400 * r + 80 * a + i)))), .int (nI (6400 * r + 80 * a + i)), .ref 55] (pm (va_up MB 55 (gs (MB 55) r n a i (fun a b => !(MB 55 (6400 * r + 80 * a + b))))) MI (nI n) mt T) by
      cases hz : MB 55 (6400 * r + 80 * a + i)
      · rw [hz] at K2
        refine zz_if_ne (tgt := 57) dX5_oppose_50 (by decide) (fun q => absurd rfl q) (fun _ => ?_)
        refine zz_iconst (v := 1) dX5_oppose_53 (by decide) ?_
        refine zz_goto (tgt := 58) dX5_oppose_54 (by decide) ?_
        exact K2
      · rw [hz] at K2
        refine zz_if_ne (tgt := 57) dX5_oppose_50 (by decide) (fun _ => ?_) (fun q => absurd q (by decide))
        refine zz_iconst (v := 0) dX5_oppose_57 (by decide) ?_
        exact K2
    refine zs_mb dX5_oppose_58 (by omega) (by simp only [ml55, ml56, ml57, ml58, ml59, ml60, ml61]; omega) (by simp only [ml55, ml56, ml57, ml58, ml59, ml60, ml61]; omega) ?_
    refine zz_iinc (v := nI (i + 1)) dX5_oppose_59 rfl (nI_1 i) (by decide) ?_
    refine zz_goto (tgt := 25) dX5_oppose_62 (by decide) ?_
    have h9 := ih (i + 1) (by omega)
    rw [← gs_s hn ha (show i < n by omega)] at h9
    simp only [up_at, up_up]
    exact h9
set_option maxHeartbeats 1000000 in
set_option maxRecDepth 20000 in
theorem ml_oppO {r : Nat} (hr : r < 4) (hn : n ≤ 80) : ∀ (m i : Nat), i + m = n → zz_E mX5_oppose none 4 0 0 (fun o τ => o = .inl (some (.int (nI (sm (fun j => cnt (fun k => (gs (MB 55) r n n 0 (fun a b => !(MB 55 (6400 * r + 80 * a + b)))) (6400 * r + 80 * j + k)) n) n)))) ∧ τ = pm (va_up MB 55 (gs (MB 55) r n n 0 (fun a b => !(MB 55 (6400 * r + 80 * a + b))))) MI (nI n) 0 T) 15 [(2, .int (nI i)), (0, .ref 54), (1, .int (nI r))] [] (pm (va_up MB 55 (gs (MB 55) r n i 0 (fun a b => !(MB 55 (6400 * r + 80 * a + b))))) MI (nI n) mt T) := by
  intro m
  induction m with
  | zero =>
    intro i hi
    have hi : i = n := by omega
    subst hi
    refine zz_iload_n dX5_oppose_15 rfl ?_
    refine zz_aload_n dX5_oppose_16 rfl ?_
    refine zz_get (ci := 5) (j := 2) zz_inX5 rfl zw_f_X5_16 rfl (by decide) dX5_oppose_17 (by omega) pm_o rfl ?_
    refine zz_icmp_ge (tgt := 71) dX5_oppose_20 (by decide) (fun _ => ?_) (fun h => absurd (nI_le (by omega) (by omega)) h)
    refine zz_aload_n dX5_oppose_71 rfl ?_
    refine zz_aload_n dX5_oppose_72 rfl ?_
    refine zz_iload_n dX5_oppose_73 rfl ?_
    refine zz_callV1 (ci := 5) (m_pairs hr hn) dX5_oppose_74 zw_m_X5_73 wYX5_pairs wDX5_pairs rfl (by omega) pm_o rfl (Nat.le_of_ble_eq_true rfl) (by decide) rfl ?_
    refine zz_callV1 (ci := 5) (m_told _) dX5_oppose_77 zw_m_X5_80 wYX5_told wDX5_told rfl (by omega) pm_o rfl (Nat.le_of_ble_eq_true rfl) (by decide) rfl ?_
    refine zz_iret dX5_oppose_80 rfl ?_
    exact ⟨by simp only [up_at], rfl⟩
  | succ m ih =>
    intro i hi
    refine zz_iload_n dX5_oppose_15 rfl ?_
    refine zz_aload_n dX5_oppose_16 rfl ?_
    refine zz_get (ci := 5) (j := 2) zz_inX5 rfl zw_f_X5_16 rfl (by decide) dX5_oppose_17 (by omega) pm_o rfl ?_
    refine zz_icmp_ge (tgt := 71) dX5_oppose_20 (by decide) (fun h => absurd h (nI_ge (by omega) (by omega))) (fun _ => ?_)
    refine zz_iconst (v := 0) dX5_oppose_23 (by decide) ?_
    refine zz_istore_n dX5_oppose_24 (by decide) ?_
    refine ml_oppI hr hn (a := i) (by omega) ?_ n 0 (by omega)
    refine zz_iinc (v := nI (i + 1)) dX5_oppose_65 rfl (nI_1 i) (by decide) ?_
    refine zz_goto (tgt := 15) dX5_oppose_68 (by decide) ?_
    refine zz_lvs (lv2 := [(2, .int (nI (i + 1))), (0, .ref 54), (1, .int (nI r))]) (fun q hq => by simp only [List.mem_cons, List.not_mem_nil, or_false] at hq; rcases hq with rfl | rfl | rfl <;> simp [zz_up1, zz_up2, Value.category]) ?_
    have h9 := ih (i + 1) (by omega)
    rw [← gs_row] at h9
    exact h9
set_option maxHeartbeats 1000000 in
set_option maxRecDepth 20000 in
theorem m_oppose_v {r : Nat} (hr : r < 4) (hn : n ≤ 80) : zz_C mX5_oppose 4 0 0 [.ref 54, .int (nI r)] (pm MB MI (nI n) mt T) (fun o τ => o = .inl (some (.int (nI (sm (fun j => cnt (fun k => (gs (MB 55) r n n 0 (fun a b => !(MB 55 (6400 * r + 80 * a + b)))) (6400 * r + 80 * j + k)) n) n)))) ∧ τ = pm (va_up MB 55 (gs (MB 55) r n n 0 (fun a b => !(MB 55 (6400 * r + 80 * a + b))))) MI (nI n) 0 T) := by
  have e1 := isR_t hr
  · refine zz_start wPX5_oppose rfl rfl (Nat.le_of_ble_eq_true rfl) ?_
    refine zz_iload_n dX5_oppose_0 rfl ?_
    refine zz_callS1 (m_isR _) dX5_oppose_1 zw_m_X5_55 wYX5_isRelation wDX5_isRelation rfl (Nat.le_of_ble_eq_true rfl) (by decide) rfl ?_
    refine zz_if_ne (tgt := 13) dX5_oppose_4 (by decide) (fun _ => ?_) (fun q => absurd q (by rw [e1]; decide))
    refine zz_iconst (v := 0) dX5_oppose_13 (by decide) ?_
    refine zz_istore_n dX5_oppose_14 (by decide) ?_
    have h9 := ml_oppO (MB := MB) (MI := MI) (mt := mt) (T := T) hr hn n 0 (by omega)
    rw [gs_0, up_self] at h9
    exact h9
set_option maxHeartbeats 1000000 in
set_option maxRecDepth 20000 in
theorem m_oppose_x {v : Int32} (h : isR v = false) : zz_C mX5_oppose 4 0 0 [.ref 54, .int v] (pm MB MI (nI n) mt T) (fun o τ => o = .inl (some (.int 0)) ∧ τ = pm MB MI (nI n) 1 T) := by
  · refine zz_start wPX5_oppose rfl rfl (Nat.le_of_ble_eq_true rfl) ?_
    refine zz_iload_n dX5_oppose_0 rfl ?_
    refine zz_callS1 (m_isR _) dX5_oppose_1 zw_m_X5_55 wYX5_isRelation wDX5_isRelation rfl (Nat.le_of_ble_eq_true rfl) (by decide) rfl ?_
    refine zz_if_ne (tgt := 13) dX5_oppose_4 (by decide) (fun q => absurd (by rw [h]; rfl) q) (fun _ => ?_)
    refine zz_aload_n dX5_oppose_7 rfl ?_
    refine zz_iconst (v := 1) dX5_oppose_8 (by decide) ?_
    refine zz_callV1 (ci := 5) (m_refuse 1) dX5_oppose_9 zw_m_X5_77 wYX5_refuse wDX5_refuse rfl (by omega) pm_o rfl (Nat.le_of_ble_eq_true rfl) (by decide) rfl ?_
    refine zz_iret dX5_oppose_12 rfl ?_
    exact ⟨rfl, rfl⟩
end ZZM5
