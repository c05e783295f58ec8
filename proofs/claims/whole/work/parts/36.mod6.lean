section ZZM6
variable {MB : Nat → Nat → Bool} {MI : Nat → Nat → Int32} {n : Nat} {mt : Int32} {T : zz_St}
theorem f4_1 : ((1 : Fin 4) : Nat) = 1 := rfl
theorem f4_2 : ((2 : Fin 4) : Nat) = 2 := rfl
theorem f4_3 : ((3 : Fin 4) : Nat) = 3 := rfl
set_option maxHeartbeats 1000000 in
set_option maxRecDepth 20000 in
theorem ml_marks (hn : n ≤ 80) : ∀ (m i : Nat), i + m = n → zz_E mX5_marks none 0 0 0 (fun o τ => o = .inl (some (.int (nI (cnt (MB 56) n)))) ∧ τ = pm MB MI (nI n) mt T) 4 [(2, .int (nI i)), (1, .int (nI (cnt (MB 56) i))), (0, .ref 54)] [] (pm MB MI (nI n) mt T) := by
  intro m
  induction m with
  | zero =>
    intro i hi
    have hi : n = i := by omega
    subst hi
    refine zz_iload_n dX5_marks_4 rfl ?_
    refine zz_aload_n dX5_marks_5 rfl ?_
    refine zz_get (ci := 5) (j := 2) zz_inX5 rfl zw_f_X5_16 rfl (by decide) dX5_marks_6 (by omega) pm_o rfl ?_
    refine zz_icmp_ge (tgt := 35) dX5_marks_9 (by decide) (fun _ => ?_) (fun h => absurd (nI_le (by omega) (by omega)) h)
    refine zz_iload_n dX5_marks_35 rfl ?_
    refine zz_iret dX5_marks_36 rfl ?_
    exact ⟨rfl, rfl⟩
  | succ m ih =>
    intro i hi
    refine zz_iload_n dX5_marks_4 rfl ?_
    refine zz_aload_n dX5_marks_5 rfl ?_
    refine zz_get (ci := 5) (j := 2) zz_inX5 rfl zw_f_X5_16 rfl (by decide) dX5_marks_6 (by omega) pm_o rfl ?_
    refine zz_icmp_ge (tgt := 35) dX5_marks_9 (by decide) (fun h => absurd h (nI_ge (by omega) (by omega))) (fun _ => ?_)
    refine zz_iload_n dX5_marks_12 rfl ?_
    refine zz_aload_n dX5_marks_13 rfl ?_
    refine zz_get (ci := 5) (j := 1) zz_inX5 rfl zw_f_X5_13 rfl (by decide) dX5_marks_14 (by omega) pm_o rfl ?_
    refine zz_iload_n dX5_marks_17 rfl ?_
    refine zl_mb dX5_marks_18 (by omega) (by simp only [ml55, ml56, ml57, ml58, ml59, ml60, ml61]; omega) (by simp only [ml55, ml56, ml57, ml58, ml59, ml60, ml61]; omega) ?_
    refine zz_if_eq (tgt := 26) dX5_marks_19 (by decide) (fun h19 => ?_) (fun h19 => ?_)
    · refine zz_iconst (v := 0) dX5_marks_26 (by decide) ?_
      refine zz_iadd dX5_marks_27 ?_
      refine zz_istore_n dX5_marks_28 (by decide) ?_
      refine zz_iinc (v := nI (i + 1)) dX5_marks_29 rfl (nI_1 i) (by decide) ?_
      refine zz_goto (tgt := 4) dX5_marks_32 (by decide) ?_
      have h9 := ih (i + 1) (by omega)
      rw [cnt_s] at h9
      first | (rw [zB_0.mp h19] at h9; exact h9) | (rw [zB_n.mp h19] at h9; exact h9)
    · refine zz_iconst (v := 1) dX5_marks_22 (by decide) ?_
      refine zz_goto (tgt := 27) dX5_marks_23 (by decide) ?_
      refine zz_iadd dX5_marks_27 ?_
      refine zz_istore_n dX5_marks_28 (by decide) ?_
      refine zz_iinc (v := nI (i + 1)) dX5_marks_29 rfl (nI_1 i) (by decide) ?_
      refine zz_goto (tgt := 4) dX5_marks_32 (by decide) ?_
      have h9 := ih (i + 1) (by omega)
      rw [cnt_s] at h9
      first | (rw [zB_0.mp h19] at h9; exact h9) | (rw [zB_n.mp h19] at h9; exact h9)
set_option maxHeartbeats 1000000 in
set_option maxRecDepth 20000 in
theorem m_marks (hn : n ≤ 80) : zz_Dt mX5_marks 0 0 0 [.ref 54] (pm MB MI (nI n) mt T) (.inl (some (.int (nI (cnt (MB 56) n))))) (pm MB MI (nI n) mt T) := by
  refine zz_start wPX5_marks rfl rfl (Nat.le_of_ble_eq_true rfl) ?_
  refine zz_iconst (v := 0) dX5_marks_0 (by decide) ?_
  refine zz_istore_n dX5_marks_1 (by decide) ?_
  refine zz_iconst (v := 0) dX5_marks_2 (by decide) ?_
  refine zz_istore_n dX5_marks_3 (by decide) ?_
  exact ml_marks hn n 0 (by omega)
set_option maxHeartbeats 1000000 in
set_option maxRecDepth 20000 in
theorem ml_mark {a e : Nat} (hn : n ≤ 80) (hae : a ≤ e) (hen : e ≤ n) (b : Bool) : ∀ (m i : Nat), i + m = e → a ≤ i → zz_E mX5_mark none 1 0 0 (fun o τ => o = .inl (some (.int (nI (cnt (rng (MB 56) 0 a e (fun _ => b)) n)))) ∧ τ = pm (va_up MB 56 (rng (MB 56) 0 a e (fun _ => b))) MI (nI n) 0 T) 18 [(4, .int (nI i)), (0, .ref 54), (1, .int (nI a)), (2, .int (nI e)), (3, .int (zB b))] [] (pm (va_up MB 56 (rng (MB 56) 0 a i (fun _ => b))) MI (nI n) mt T) := by
  intro m
  induction m with
  | zero =>
    intro i hi ha
    have hi : e = i := by omega
    subst hi
    refine zz_iload dX5_mark_18 rfl ?_
    refine zz_iload_n dX5_mark_20 rfl ?_
    refine zz_icmp_ge (tgt := 38) dX5_mark_21 (by decide) (fun _ => ?_) (fun h => absurd (nI_le (by omega) (by omega)) h)
    refine zz_aload_n dX5_mark_38 rfl ?_
    refine zz_aload_n dX5_mark_39 rfl ?_
    refine zz_callV1 (ci := 5) (m_marks hn) dX5_mark_40 zw_m_X5_131 wYX5_marks wDX5_marks rfl (by omega) pm_o rfl (Nat.le_of_ble_eq_true rfl) (by decide) rfl ?_
    refine zz_callV1 (ci := 5) (m_told _) dX5_mark_43 zw_m_X5_80 wYX5_told wDX5_told rfl (by omega) pm_o rfl (Nat.le_of_ble_eq_true rfl) (by decide) rfl ?_
    refine zz_iret dX5_mark_46 rfl ?_
    exact ⟨by simp only [up_at], rfl⟩
  | succ m ih =>
    intro i hi ha
    refine zz_iload dX5_mark_18 rfl ?_
    refine zz_iload_n dX5_mark_20 rfl ?_
    refine zz_icmp_ge (tgt := 38) dX5_mark_21 (by decide) (fun h => absurd h (nI_ge (by omega) (by omega))) (fun _ => ?_)
    refine zz_aload_n dX5_mark_24 rfl ?_
    refine zz_get (ci := 5) (j := 1) zz_inX5 rfl zw_f_X5_13 rfl (by decide) dX5_mark_25 (by omega) pm_o rfl ?_
    refine zz_iload dX5_mark_28 rfl ?_
    refine zz_iload_n dX5_mark_30 rfl ?_
    refine zs_mb (b := b) dX5_mark_31 (by omega) (by simp only [ml55, ml56, ml57, ml58, ml59, ml60, ml61]; omega) (by simp only [ml55, ml56, ml57, ml58, ml59, ml60, ml61]; omega) ?_
    refine zz_iinc (v := nI (i + 1)) dX5_mark_32 rfl (nI_1 i) (by decide) ?_
    refine zz_goto (tgt := 18) dX5_mark_35 (by decide) ?_
    have h9 := ih (i + 1) (by omega) (by omega)
    have h8 := rng_s (MB 56) 0 a i (fun _ => b) ha
    simp only [Nat.zero_add] at h8
    rw [← h8] at h9
    simp only [up_at, up_up]
    exact h9
set_option maxHeartbeats 1000000 in
set_option maxRecDepth 20000 in
theorem m_mark_v {a e : Nat} (hn : n ≤ 80) (hae : a ≤ e) (hen : e ≤ n) (b : Bool) : zz_C mX5_mark 1 0 0 [.ref 54, .int (nI a), .int (nI e), .int (zB b)] (pm MB MI (nI n) mt T) (fun o τ => o = .inl (some (.int (nI (cnt (rng (MB 56) 0 a e (fun _ => b)) n)))) ∧ τ = pm (va_up MB 56 (rng (MB 56) 0 a e (fun _ => b))) MI (nI n) 0 T) := by
  have hG := isG_n hn hae hen
  · refine zz_start wPX5_mark rfl rfl (Nat.le_of_ble_eq_true rfl) ?_
    refine zz_aload_n dX5_mark_0 rfl ?_
    refine zz_iload_n dX5_mark_1 rfl ?_
    refine zz_iload_n dX5_mark_2 rfl ?_
    refine zz_callV1 (ci := 5) (m_isG _ _) dX5_mark_3 zw_m_X5_94 wYX5_isRange wDX5_isRange rfl (by omega) pm_o rfl (Nat.le_of_ble_eq_true rfl) (by decide) rfl ?_
    refine zz_if_ne (tgt := 15) dX5_mark_6 (by decide) (fun _ => ?_) (fun q => absurd q (by rw [hG]; decide))
    refine zz_iload_n dX5_mark_15 rfl ?_
    refine zz_istore dX5_mark_16 (by decide) ?_
    have h9 := ml_mark (MB := MB) (MI := MI) (mt := mt) (T := T) hn hae hen b (e - a) a (by omega) (Nat.le_refl a)
    rw [rng_0, up_self] at h9
    exact h9
set_option maxHeartbeats 1000000 in
set_option maxRecDepth 20000 in
theorem m_mark_x {v w : Int32} (h : isG n v w = false) (b : Bool) : zz_C mX5_mark 1 0 0 [.ref 54, .int v, .int w, .int (zB b)] (pm MB MI (nI n) mt T) (fun o τ => o = .inl (some (.int 0)) ∧ τ = pm MB MI (nI n) 1 T) := by
  · refine zz_start wPX5_mark rfl rfl (Nat.le_of_ble_eq_true rfl) ?_
    refine zz_aload_n dX5_mark_0 rfl ?_
    refine zz_iload_n dX5_mark_1 rfl ?_
    refine zz_iload_n dX5_mark_2 rfl ?_
    refine zz_callV1 (ci := 5) (m_isG _ _) dX5_mark_3 zw_m_X5_94 wYX5_isRange wDX5_isRange rfl (by omega) pm_o rfl (Nat.le_of_ble_eq_true rfl) (by decide) rfl ?_
    refine zz_if_ne (tgt := 15) dX5_mark_6 (by decide) (fun q => absurd (by rw [h]; rfl) q) (fun _ => ?_)
    refine zz_aload_n dX5_mark_9 rfl ?_
    refine zz_iconst (v := 1) dX5_mark_10 (by decide) ?_
    refine zz_callV1 (ci := 5) (m_refuse 1) dX5_mark_11 zw_m_X5_77 wYX5_refuse wDX5_refuse rfl (by omega) pm_o rfl (Nat.le_of_ble_eq_true rfl) (by decide) rfl ?_
    refine zz_iret dX5_mark_14 rfl ?_
    exact ⟨rfl, rfl⟩
def sprG (W : Nat → Bool) (f : Nat → Bool) (ow : Bool) (r n k : Nat) : Bool := (ow && W k) || anb (fun i => W i && f (6400 * r + 80 * i + k)) n
theorem or_f {a b : Bool} (h : a = false) : (a || b) = b := by rw [h]; rfl
set_option maxHeartbeats 1000000 in
set_option maxRecDepth 20000 in
theorem ml_spI {Q : zz_Q} {r : Nat} (hr : r < 4) (hn : n ≤ 80) (ow : Bool) {W : Nat → Bool} (hW : MB 61 = W) {k : Nat} (hk : k < n) (K : zz_E mX5_spread none 2 0 0 Q 122 [(4, .int (zB ((ow && W k) || anb (fun i => W i && MB 55 (6400 * r + 80 * i + k)) n))), (3, .int (nI k)), (0, .ref 54), (1, .int (nI r)), (2, .int (zB ow))] [] (pm MB MI (nI n) mt T)) : ∀ (m i : Nat), i + m = n → zz_E mX5_spread none 2 0 0 (Q) 74 [(5, .int (nI i)), (4, .int (zB ((ow && W k) || anb (fun i => W i && MB 55 (6400 * r + 80 * i + k)) i))), (3, .int (nI k)), (0, .ref 54), (1, .int (nI r)), (2, .int (zB ow))] [] (pm MB MI (nI n) mt T) := by
  intro m
  induction m with
  | zero =>
    intro i hi
    have hi : n = i := by omega
    subst hi
    refine zz_iload dX5_spread_74 rfl ?_
    refine zz_aload_n dX5_spread_76 rfl ?_
    refine zz_get (ci := 5) (j := 2) zz_inX5 rfl zw_f_X5_16 rfl (by decide) dX5_spread_77 (by omega) pm_o rfl ?_
    refine zz_icmp_ge (tgt := 122) dX5_spread_80 (by decide) (fun _ => ?_) (fun h => absurd (nI_le (by omega) (by omega)) h)
    refine zz_lvs (lv2 := [(4, .int (zB ((ow && W k) || anb (fun i => W i && MB 55 (6400 * r + 80 * i + k)) n))), (3, .int (nI k)), (0, .ref 54), (1, .int (nI r)), (2, .int (zB ow))]) (fun q hq => by simp only [List.mem_cons, List.not_mem_nil, or_false] at hq; rcases hq with rfl | rfl | rfl | rfl | rfl <;> simp [zz_up1, zz_up2, Value.category]) ?_
    exact K
  | succ m ih =>
    intro i hi
    refine zz_iload dX5_spread_74 rfl ?_
    refine zz_aload_n dX5_spread_76 rfl ?_
    refine zz_get (ci := 5) (j := 2) zz_inX5 rfl zw_f_X5_16 rfl (by decide) dX5_spread_77 (by omega) pm_o rfl ?_
    refine zz_icmp_ge (tgt := 122) dX5_spread_80 (by decide) (fun h => absurd h (nI_ge (by omega) (by omega))) (fun _ => ?_)
    refine zz_iload dX5_spread_83 rfl ?_
    refine zz_if_ne (tgt := 109) dX5_spread_85 (by decide) (fun h85 => ?_) (fun h85 => ?_)
    · refine zz_iconst (v := 1) dX5_spread_109 (by decide) ?_
      refine zz_goto (tgt := 114) dX5_spread_110 (by decide) ?_
      refine zz_istore dX5_spread_114 (by decide) ?_
      refine zz_iinc (v := nI (i + 1)) dX5_spread_116 rfl (nI_1 i) (by decide) ?_
      refine zz_goto (tgt := 74) dX5_spread_119 (by decide) ?_
      have h9 := ih (i + 1) (by omega)
      have e9 : ((ow && W k) || anb (fun i => W i && MB 55 (6400 * r + 80 * i + k)) (i + 1)) = (((ow && W k) || anb (fun i => W i && MB 55 (6400 * r + 80 * i + k)) i) || (W i && MB 55 (6400 * r + 80 * i + k))) := by show (_ || (_ || _)) = ((_ || _) || _); rw [Bool.or_assoc]
      rw [e9] at h9
      first
        | (simp only [zB_n.mp h85, Bool.true_or] at h9; exact h9)
        | (simp only [zB_0.mp h85, zB_0.mp h95, Bool.false_and, Bool.or_false] at h9; exact h9)
        | (simp only [zB_0.mp h85, zB_n.mp h95, zB_0.mp h106, Bool.true_and, Bool.or_false] at h9; exact h9)
        | (simp only [zB_0.mp h85, zB_n.mp h95, zB_n.mp h106, Bool.true_and, Bool.or_true] at h9; exact h9)
    · refine zz_aload_n dX5_spread_88 rfl ?_
      refine zz_get (ci := 5) (j := 8) zz_inX5 rfl zw_f_X5_32 rfl (by decide) dX5_spread_89 (by omega) pm_o rfl ?_
      refine zz_iload dX5_spread_92 rfl ?_
      refine zl_mb dX5_spread_94 (by omega) (by simp only [ml55, ml56, ml57, ml58, ml59, ml60, ml61]; omega) (by simp only [ml55, ml56, ml57, ml58, ml59, ml60, ml61]; omega) ?_
      rw [hW]
      refine zz_if_eq (tgt := 113) dX5_spread_95 (by decide) (fun h95 => ?_) (fun h95 => ?_)
      · refine zz_iconst (v := 0) dX5_spread_113 (by decide) ?_
        refine zz_istore dX5_spread_114 (by decide) ?_
        refine zz_iinc (v := nI (i + 1)) dX5_spread_116 rfl (nI_1 i) (by decide) ?_
        refine zz_goto (tgt := 74) dX5_spread_119 (by decide) ?_
        have h9 := ih (i + 1) (by omega)
        have e9 : ((ow && W k) || anb (fun i => W i && MB 55 (6400 * r + 80 * i + k)) (i + 1)) = (((ow && W k) || anb (fun i => W i && MB 55 (6400 * r + 80 * i + k)) i) || (W i && MB 55 (6400 * r + 80 * i + k))) := by show (_ || (_ || _)) = ((_ || _) || _); rw [Bool.or_assoc]
        rw [e9] at h9
        first
          | (simp only [zB_n.mp h85, Bool.true_or] at h9; exact h9)
          | (simp only [zB_0.mp h85, zB_0.mp h95, Bool.false_and, Bool.or_false] at h9; exact h9)
          | (simp only [zB_0.mp h85, zB_n.mp h95, zB_0.mp h106, Bool.true_and, Bool.or_false] at h9; exact h9)
          | (simp only [zB_0.mp h85, zB_n.mp h95, zB_n.mp h106, Bool.true_and, Bool.or_true] at h9; exact h9)
      · refine zz_aload_n dX5_spread_98 rfl ?_
        refine zz_iload_n dX5_spread_99 rfl ?_
        refine zz_iload dX5_spread_100 rfl ?_
        refine zz_iload_n dX5_spread_102 rfl ?_
        refine zz_callV1 (ci := 5) (m_leads hr (show i < 80 by omega) (show k < 80 by omega)) dX5_spread_103 zw_m_X5_66 wYX5_leads wDX5_leads rfl (by omega) pm_o rfl (Nat.le_of_ble_eq_true rfl) (by decide) rfl ?_
        refine zz_if_eq (tgt := 113) dX5_spread_106 (by decide) (fun h106 => ?_) (fun h106 => ?_)
        · refine zz_iconst (v := 0) dX5_spread_113 (by decide) ?_
          refine zz_istore dX5_spread_114 (by decide) ?_
          refine zz_iinc (v := nI (i + 1)) dX5_spread_116 rfl (nI_1 i) (by decide) ?_
          refine zz_goto (tgt := 74) dX5_spread_119 (by decide) ?_
          have h9 := ih (i + 1) (by omega)
          have e9 : ((ow && W k) || anb (fun i => W i && MB 55 (6400 * r + 80 * i + k)) (i + 1)) = (((ow && W k) || anb (fun i => W i && MB 55 (6400 * r + 80 * i + k)) i) || (W i && MB 55 (6400 * r + 80 * i + k))) := by show (_ || (_ || _)) = ((_ || _) || _); rw [Bool.or_assoc]
          rw [e9] at h9
          first
            | (simp only [zB_n.mp h85, Bool.true_or] at h9; exact h9)
            | (simp only [zB_0.mp h85, zB_0.mp h95, Bool.false_and, Bool.or_false] at h9; exact h9)
            | (simp only [zB_0.mp h85, zB_n.mp h95, zB_0.mp h106, Bool.true_and, Bool.or_false] at h9; exact h9)
            | (simp only [zB_0.mp h85, zB_n.mp h95, zB_n.mp h106, Bool.true_and, Bool.or_true] at h9; exact h9)
        · refine zz_iconst (v := 1) dX5_spread_109 (by decide) ?_
          refine zz_goto (tgt := 114) dX5_spread_110 (by decide) ?_
          refine zz_istore dX5_spread_114 (by decide) ?_
          refine zz_iinc (v := nI (i + 1)) dX5_spread_116 rfl (nI_1 i) (by decide) ?_
          refine zz_goto (tgt := 74) dX5_spread_119 (by decide) ?_
          have h9 := ih (i + 1) (by omega)
          have e9 : ((ow && W k) || anb (fun i => W i && MB 55 (6400 * r + 80 * i + k)) (i + 1)) = (((ow && W k) || anb (fun i => W i && MB 55 (6400 * r + 80 * i + k)) i) || (W i && MB 55 (6400 * r + 80 * i + k))) := by show (_ || (_ || _)) = ((_ || _) || _); rw [Bool.or_assoc]
          rw [e9] at h9
          first
            | (simp only [zB_n.mp h85, Bool.true_or] at h9; exact h9)
            | (simp only [zB_0.mp h85, zB_0.mp h95, Bool.false_and, Bool.or_false] at h9; exact h9)
            | (simp only [zB_0.mp h85, zB_n.mp h95, zB_0.mp h106, Bool.true_and, Bool.or_false] at h9; exact h9)
            | (simp only [zB_0.mp h85, zB_n.mp h95, zB_n.mp h106, Bool.true_and, Bool.or_true] at h9; exact h9)
set_option maxHeartbeats 1000000 in
set_option maxRecDepth 20000 in
theorem ml_spO {r : Nat} (hr : r < 4) (hn : n ≤ 80) (ow : Bool) (W : Nat → Bool) : ∀ (m i : Nat), i + m = n → zz_E mX5_spread none 2 0 0 (fun o τ => o = .inl (some (.int (nI (cnt (cpy n (sprG W (MB 55) ow r n) (MB 56)) n)))) ∧ τ = pm (va_up (va_up MB 61 W) 56 (cpy n (sprG W (MB 55) ow r n) (MB 56))) MI (nI n) 0 T) 43 [(3, .int (nI i)), (0, .ref 54), (1, .int (nI r)), (2, .int (zB ow))] [] (pm (va_up (va_up MB 61 W) 56 (cpy i (sprG W (MB 55) ow r n) (MB 56))) MI (nI n) mt T) := by
  intro m
  induction m with
  | zero =>
    intro i hi
    have hi : n = i := by omega
    subst hi
    refine zz_iload_n dX5_spread_43 rfl ?_
    refine zz_aload_n dX5_spread_44 rfl ?_
    refine zz_get (ci := 5) (j := 2) zz_inX5 rfl zw_f_X5_16 rfl (by decide) dX5_spread_45 (by omega) pm_o rfl ?_
    refine zz_icmp_ge (tgt := 136) dX5_spread_48 (by decide) (fun _ => ?_) (fun h => absurd (nI_le (by omega) (by omega)) h)
    refine zz_aload_n dX5_spread_136 rfl ?_
    refine zz_aload_n dX5_spread_137 rfl ?_
    refine zz_callV1 (ci := 5) (m_marks hn) dX5_spread_138 zw_m_X5_131 wYX5_marks wDX5_marks rfl (by omega) pm_o rfl (Nat.le_of_ble_eq_true rfl) (by decide) rfl ?_
    refine zz_callV1 (ci := 5) (m_told _) dX5_spread_141 zw_m_X5_80 wYX5_told wDX5_told rfl (by omega) pm_o rfl (Nat.le_of_ble_eq_true rfl) (by decide) rfl ?_
    refine zz_iret dX5_spread_144 rfl ?_
    exact ⟨by simp only [up_at], rfl⟩
  | succ m ih =>
    intro i hi
    refine zz_iload_n dX5_spread_43 rfl ?_
    refine zz_aload_n dX5_spread_44 rfl ?_
    refine zz_get (ci := 5) (j := 2) zz_inX5 rfl zw_f_X5_16 rfl (by decide) dX5_spread_45 (by omega) pm_o rfl ?_
    refine zz_icmp_ge (tgt := 136) dX5_spread_48 (by decide) (fun h => absurd h (nI_ge (by omega) (by omega))) (fun _ => ?_)
    have e8 : (va_up (va_up MB 61 W) 56 (cpy i (sprG W (MB 55) ow r n) (MB 56))) 61 = W := by simp only [up_at, up_up, up_ne _ _ (show (61 : Nat) ≠ 56 by decide), up_ne _ _ (show (55 : Nat) ≠ 56 by decide), up_ne _ _ (show (55 : Nat) ≠ 61 by decide), up_ne _ _ (show (56 : Nat) ≠ 61 by decide)]
    suffices K : zz_E mX5_spread none 2 0 0 (fun o τ => o = .inl (some (.int (nI (cnt (cpy n (sprG W (MB 55) ow r n) (MB 56)) n)))) ∧ τ = pm (va_up (va_up MB 61 W) 56 (cpy n (sprG W (MB 55) ow r n) (MB 56))) MI (nI n) 0 T) 69 [(3, .int (nI i)), (0, .ref 54), (1, .int (nI r)), (2, .int (zB ow))] [.int (zB (ow && W i))] (pm (va_up (va_up MB 61 W) 56 (cpy i (sprG W (MB 55) ow r n) (MB 56))) MI (nI n) mt T) by
      refine zz_iload_n dX5_spread_51 rfl ?_
      refine zz_if_eq (tgt := 68) dX5_spread_52 (by decide) (fun h52 => ?_) (fun h52 => ?_)
      · refine zz_iconst (v := 0) dX5_spread_68 (by decide) ?_
        refine zz_tope (y := zB (ow && W i)) (by first | (rw [zB_0.mp h52]; rfl) | (rw [zB_n.mp h52, zB_0.mp h61]; rfl) | (rw [zB_n.mp h52, zB_n.mp h61]; rfl)) ?_
        exact K
      · refine zz_aload_n dX5_spread_55 rfl ?_
        refine zz_get (ci := 5) (j := 8) zz_inX5 rfl zw_f_X5_32 rfl (by decide) dX5_spread_56 (by omega) pm_o rfl ?_
        refine zz_iload_n dX5_spread_59 rfl ?_
        refine zl_mb dX5_spread_60 (by omega) (by simp only [ml55, ml56, ml57, ml58, ml59, ml60, ml61]; omega) (by simp only [ml55, ml56, ml57, ml58, ml59, ml60, ml61]; omega) ?_
        rw [e8]
        refine zz_if_eq (tgt := 68) dX5_spread_61 (by decide) (fun h61 => ?_) (fun h61 => ?_)
        · refine zz_iconst (v := 0) dX5_spread_68 (by decide) ?_
          refine zz_tope (y := zB (ow && W i)) (by first | (rw [zB_0.mp h52]; rfl) | (rw [zB_n.mp h52, zB_0.mp h61]; rfl) | (rw [zB_n.mp h52, zB_n.mp h61]; rfl)) ?_
          exact K
        · refine zz_iconst (v := 1) dX5_spread_64 (by decide) ?_
          refine zz_goto (tgt := 69) dX5_spread_65 (by decide) ?_
          refine zz_tope (y := zB (ow && W i)) (by first | (rw [zB_0.mp h52]; rfl) | (rw [zB_n.mp h52, zB_0.mp h61]; rfl) | (rw [zB_n.mp h52, zB_n.mp h61]; rfl)) ?_
          exact K
    refine zz_istore dX5_spread_69 (by decide) ?_
    refine zz_iconst (v := 0) dX5_spread_71 (by decide) ?_
    refine zz_istore dX5_spread_72 (by decide) ?_
    refine zz_lvs (lv2 := [(5, .int 0), (4, .int (zB (ow && W i))), (3, .int (nI i)), (0, .ref 54), (1, .int (nI r)), (2, .int (zB ow))]) (fun q hq => by simp only [List.mem_cons, List.not_mem_nil, or_false] at hq; rcases hq with rfl | rfl | rfl | rfl | rfl | rfl <;> simp [zz_up1, zz_up2, Value.category]) ?_
    have h8 := fun Q K => ml_spI (MB := va_up (va_up MB 61 W) 56 (cpy i (sprG W (MB 55) ow r n) (MB 56))) (MI := MI) (mt := mt) (T := T) (Q := Q) hr hn ow e8 (k := i) (by omega) K n 0 (by omega)
    simp only [anb, Bool.or_false] at h8
    refine h8 _ ?_
    simp only [up_at, up_up, up_ne _ _ (show (61 : Nat) ≠ 56 by decide), up_ne _ _ (show (55 : Nat) ≠ 56 by decide), up_ne _ _ (show (55 : Nat) ≠ 61 by decide), up_ne _ _ (show (56 : Nat) ≠ 61 by decide)]
    refine zz_aload_n dX5_spread_122 rfl ?_
    refine zz_get (ci := 5) (j := 1) zz_inX5 rfl zw_f_X5_13 rfl (by decide) dX5_spread_123 (by omega) pm_o rfl ?_
    refine zz_iload_n dX5_spread_126 rfl ?_
    refine zz_iload dX5_spread_127 rfl ?_
    refine zs_mb dX5_spread_129 (by omega) (by simp only [ml55, ml56, ml57, ml58, ml59, ml60, ml61]; omega) (by simp only [ml55, ml56, ml57, ml58, ml59, ml60, ml61]; omega) ?_
    refine zz_iinc (v := nI (i + 1)) dX5_spread_130 rfl (nI_1 i) (by decide) ?_
    refine zz_goto (tgt := 43) dX5_spread_133 (by decide) ?_
    refine zz_lvs (lv2 := [(3, .int (nI (i + 1))), (0, .ref 54), (1, .int (nI r)), (2, .int (zB ow))]) (fun q hq => by simp only [List.mem_cons, List.not_mem_nil, or_false] at hq; rcases hq with rfl | rfl | rfl | rfl <;> simp [zz_up1, zz_up2, Value.category]) ?_
    have h9 := ih (i + 1) (by omega)
    rw [← cpy_s i] at h9
    simp only [up_at, up_up, up_ne _ _ (show (61 : Nat) ≠ 56 by decide), up_ne _ _ (show (55 : Nat) ≠ 56 by decide), up_ne _ _ (show (55 : Nat) ≠ 61 by decide), up_ne _ _ (show (56 : Nat) ≠ 61 by decide)]
    exact h9
set_option maxHeartbeats 1000000 in
set_option maxRecDepth 20000 in
theorem ml_spW {Q : zz_Q} {r : Nat} (hr : r < 4) (hn : n ≤ 80) (ow : Bool) (K : zz_E mX5_spread none 2 0 0 Q 41 [(3, .int (nI n)), (0, .ref 54), (1, .int (nI r)), (2, .int (zB ow))] [] (pm (va_up MB 61 (cpy n (MB 56) (MB 61))) MI (nI n) mt T)) : ∀ (m i : Nat), i + m = n → zz_E mX5_spread none 2 0 0 (Q) 15 [(3, .int (nI i)), (0, .ref 54), (1, .int (nI r)), (2, .int (zB ow))] [] (pm (va_up MB 61 (cpy i (MB 56) (MB 61))) MI (nI n) mt T) := by
  intro m
  induction m with
  | zero =>
    intro i hi
    have hi : n = i := by omega
    subst hi
    refine zz_iload_n dX5_spread_15 rfl ?_
    refine zz_aload_n dX5_spread_16 rfl ?_
    refine zz_get (ci := 5) (j := 2) zz_inX5 rfl zw_f_X5_16 rfl (by decide) dX5_spread_17 (by omega) pm_o rfl ?_
    refine zz_icmp_ge (tgt := 41) dX5_spread_20 (by decide) (fun _ => ?_) (fun h => absurd (nI_le (by omega) (by omega)) h)
    exact K
  | succ m ih =>
    intro i hi
    refine zz_iload_n dX5_spread_15 rfl ?_
    refine zz_aload_n dX5_spread_16 rfl ?_
    refine zz_get (ci := 5) (j := 2) zz_inX5 rfl zw_f_X5_16 rfl (by decide) dX5_spread_17 (by omega) pm_o rfl ?_
    refine zz_icmp_ge (tgt := 41) dX5_spread_20 (by decide) (fun h => absurd h (nI_ge (by omega) (by omega))) (fun _ => ?_)
    refine zz_aload_n dX5_spread_23 rfl ?_
    refine zz_get (ci := 5) (j := 8) zz_inX5 rfl zw_f_X5_32 rfl (by decide) dX5_spread_24 (by omega) pm_o rfl ?_
    refine zz_iload_n dX5_spread_27 rfl ?_
    refine zz_aload_n dX5_spread_28 rfl ?_
    refine zz_get (ci := 5) (j := 1) zz_inX5 rfl zw_f_X5_13 rfl (by decide) dX5_spread_29 (by omega) pm_o rfl ?_
    refine zz_iload_n dX5_spread_32 rfl ?_
    refine zl_mb dX5_spread_33 (by omega) (by simp only [ml55, ml56, ml57, ml58, ml59, ml60, ml61]; omega) (by simp only [ml55, ml56, ml57, ml58, ml59, ml60, ml61]; omega) ?_
    refine zs_mb dX5_spread_34 (by omega) (by simp only [ml55, ml56, ml57, ml58, ml59, ml60, ml61]; omega) (by simp only [ml55, ml56, ml57, ml58, ml59, ml60, ml61]; omega) ?_
    refine zz_iinc (v := nI (i + 1)) dX5_spread_35 rfl (nI_1 i) (by decide) ?_
    refine zz_goto (tgt := 15) dX5_spread_38 (by decide) ?_
    have h9 := ih (i + 1) (by omega)
    rw [← cpy_s i] at h9
    simp only [up_at, up_up, up_ne _ _ (show (61 : Nat) ≠ 56 by decide), up_ne _ _ (show (55 : Nat) ≠ 56 by decide), up_ne _ _ (show (55 : Nat) ≠ 61 by decide), up_ne _ _ (show (56 : Nat) ≠ 61 by decide)]
    exact h9
set_option maxHeartbeats 1000000 in
set_option maxRecDepth 20000 in
theorem m_spread_v {r : Nat} (hr : r < 4) (hn : n ≤ 80) (ow : Bool) : zz_C mX5_spread 2 0 0 [.ref 54, .int (nI r), .int (zB ow)] (pm MB MI (nI n) mt T) (fun o τ => o = .inl (some (.int (nI (cnt (cpy n (sprG (cpy n (MB 56) (MB 61)) (MB 55) ow r n) (MB 56)) n)))) ∧ τ = pm (va_up (va_up MB 61 (cpy n (MB 56) (MB 61))) 56 (cpy n (sprG (cpy n (MB 56) (MB 61)) (MB 55) ow r n) (MB 56))) MI (nI n) 0 T) := by
  have e1 := isR_t hr
  · refine zz_start wPX5_spread rfl rfl (Nat.le_of_ble_eq_true rfl) ?_
    refine zz_iload_n dX5_spread_0 rfl ?_
    refine zz_callS1 (m_isR _) dX5_spread_1 zw_m_X5_55 wYX5_isRelation wDX5_isRelation rfl (Nat.le_of_ble_eq_true rfl) (by decide) rfl ?_
    refine zz_if_ne (tgt := 13) dX5_spread_4 (by decide) (fun _ => ?_) (fun q => absurd q (by rw [e1]; decide))
    refine zz_iconst (v := 0) dX5_spread_13 (by decide) ?_
    refine zz_istore_n dX5_spread_14 (by decide) ?_
    have h9 := fun Q K => ml_spW (MB := MB) (MI := MI) (mt := mt) (T := T) (Q := Q) hr hn ow K n 0 (by omega)
    rw [cpy_0, up_self] at h9
    refine h9 _ ?_
    refine zz_iconst (v := 0) dX5_spread_41 (by decide) ?_
    refine zz_istore_n dX5_spread_42 (by decide) ?_
    have h8 := ml_spO (MB := va_up MB 61 (cpy n (MB 56) (MB 61))) (MI := MI) (mt := mt) (T := T) hr hn ow (cpy n (MB 56) (MB 61)) n 0 (by omega)
    simp only [up_up, up_at, up_ne _ _ (show (55 : Nat) ≠ 61 by decide), up_ne _ _ (show (56 : Nat) ≠ 61 by decide), cpy_0] at h8
    have e9 : va_up (va_up MB 61 (cpy n (MB 56) (MB 61))) 56 (MB 56) = va_up MB 61 (cpy n (MB 56) (MB 61)) := by funext x; unfold va_up; split <;> simp_all
    rw [e9] at h8
    exact h8
set_option maxHeartbeats 1000000 in
set_option maxRecDepth 20000 in
theorem m_spread_x {v : Int32} (h : isR v = false) (ow : Bool) : zz_C mX5_spread 2 0 0 [.ref 54, .int v, .int (zB ow)] (pm MB MI (nI n) mt T) (fun o τ => o = .inl (some (.int 0)) ∧ τ = pm MB MI (nI n) 1 T) := by
  · refine zz_start wPX5_spread rfl rfl (Nat.le_of_ble_eq_true rfl) ?_
    refine zz_iload_n dX5_spread_0 rfl ?_
    refine zz_callS1 (m_isR _) dX5_spread_1 zw_m_X5_55 wYX5_isRelation wDX5_isRelation rfl (Nat.le_of_ble_eq_true rfl) (by decide) rfl ?_
    refine zz_if_ne (tgt := 13) dX5_spread_4 (by decide) (fun q => absurd (by rw [h]; rfl) q) (fun _ => ?_)
    refine zz_aload_n dX5_spread_7 rfl ?_
    refine zz_iconst (v := 1) dX5_spread_8 (by decide) ?_
    refine zz_callV1 (ci := 5) (m_refuse 1) dX5_spread_9 zw_m_X5_77 wYX5_refuse wDX5_refuse rfl (by omega) pm_o rfl (Nat.le_of_ble_eq_true rfl) (by decide) rfl ?_
    refine zz_iret dX5_spread_12 rfl ?_
    exact ⟨rfl, rfl⟩
set_option maxHeartbeats 1000000 in
set_option maxRecDepth 20000 in
theorem m_has_v {r i k : Nat} (hr : r < 4) (hi : i < n) (hk : k < n) (hn : n ≤ 80) : zz_C mX5_has 3 0 0 [.ref 54, .int (nI r), .int (nI i), .int (nI k)] (pm MB MI (nI n) mt T) (fun o τ => o = .inl (some (.int (zB (MB 55 (6400 * r + 80 * i + k))))) ∧ τ = pm MB MI (nI n) 0 T) := by
  have e1 : (isR (nI r) && isE n (nI i)) = true := and_t (isR_t hr) (isE_n hn hi)
  have e2 := isE_n hn hk
  · refine zz_start wPX5_has rfl rfl (Nat.le_of_ble_eq_true rfl) ?_
    refine zz_aload_n dX5_has_0 rfl ?_
    refine zz_iload_n dX5_has_1 rfl ?_
    refine zz_iload_n dX5_has_2 rfl ?_
    refine zz_callV1 (ci := 5) (m_isRow _ _) dX5_has_3 zw_m_X5_83 wYX5_isRow wDX5_isRow rfl (by omega) pm_o rfl (Nat.le_of_ble_eq_true rfl) (by decide) rfl ?_
    refine zz_if_eq (tgt := 31) dX5_has_6 (by decide) (fun q => absurd q (by rw [e1]; decide)) (fun _ => ?_)
    refine zz_aload_n dX5_has_9 rfl ?_
    refine zz_iload_n dX5_has_10 rfl ?_
    refine zz_callV1 (ci := 5) (m_isE _) dX5_has_11 zw_m_X5_59 wYX5_isElement wDX5_isElement rfl (by omega) pm_o rfl (Nat.le_of_ble_eq_true rfl) (by decide) rfl ?_
    refine zz_if_eq (tgt := 31) dX5_has_14 (by decide) (fun q => absurd q (by rw [e2]; decide)) (fun _ => ?_)
    refine zz_aload_n dX5_has_17 rfl ?_
    refine zz_aload_n dX5_has_18 rfl ?_
    refine zz_iload_n dX5_has_19 rfl ?_
    refine zz_iload_n dX5_has_20 rfl ?_
    refine zz_iload_n dX5_has_21 rfl ?_
    refine zz_callV1 (ci := 5) (m_leads hr (show i < 80 by omega) (show k < 80 by omega)) dX5_has_22 zw_m_X5_66 wYX5_leads wDX5_leads rfl (by omega) pm_o rfl (Nat.le_of_ble_eq_true rfl) (by decide) rfl ?_
    refine zz_callV1 (ci := 5) (m_says _) dX5_has_25 zw_m_X5_90 wYX5_says wDX5_says rfl (by omega) pm_o rfl (Nat.le_of_ble_eq_true rfl) (by decide) rfl ?_
    refine zz_goto (tgt := 36) dX5_has_28 (by decide) ?_
    refine zz_zret dX5_has_36 rfl (by first | rfl | exact zB_nar _) ?_
    exact ⟨rfl, rfl⟩
set_option maxHeartbeats 1000000 in
set_option maxRecDepth 20000 in
theorem m_has_x {v w u : Int32} (h : (isR v && isE n w && isE n u) = false) : zz_C mX5_has 3 0 0 [.ref 54, .int v, .int w, .int u] (pm MB MI (nI n) mt T) (fun o τ => o = .inl (some (.int (zB false))) ∧ τ = pm MB MI (nI n) 1 T) := by
  rcases and_f h with h1 | ⟨h1, h2⟩
  · refine zz_start wPX5_has rfl rfl (Nat.le_of_ble_eq_true rfl) ?_
    refine zz_aload_n dX5_has_0 rfl ?_
    refine zz_iload_n dX5_has_1 rfl ?_
    refine zz_iload_n dX5_has_2 rfl ?_
    refine zz_callV1 (ci := 5) (m_isRow _ _) dX5_has_3 zw_m_X5_83 wYX5_isRow wDX5_isRow rfl (by omega) pm_o rfl (Nat.le_of_ble_eq_true rfl) (by decide) rfl ?_
    refine zz_if_eq (tgt := 31) dX5_has_6 (by decide) (fun _ => ?_) (fun q => absurd (by rw [h1]; rfl) q)
    refine zz_aload_n dX5_has_31 rfl ?_
    refine zz_iconst (v := 1) dX5_has_32 (by decide) ?_
    refine zz_callV1 (ci := 5) (m_denies 1) dX5_has_33 zw_m_X5_87 wYX5_denies wDX5_denies rfl (by omega) pm_o rfl (Nat.le_of_ble_eq_true rfl) (by decide) rfl ?_
    refine zz_zret dX5_has_36 rfl (by first | rfl | exact zB_nar _) ?_
    exact ⟨rfl, rfl⟩
  · refine zz_start wPX5_has rfl rfl (Nat.le_of_ble_eq_true rfl) ?_
    refine zz_aload_n dX5_has_0 rfl ?_
    refine zz_iload_n dX5_has_1 rfl ?_
    refine zz_iload_n dX5_has_2 rfl ?_
    refine zz_callV1 (ci := 5) (m_isRow _ _) dX5_has_3 zw_m_X5_83 wYX5_isRow wDX5_isRow rfl (by omega) pm_o rfl (Nat.le_of_ble_eq_true rfl) (by decide) rfl ?_
    refine zz_if_eq (tgt := 31) dX5_has_6 (by decide) (fun q => absurd q (by rw [h1]; decide)) (fun _ => ?_)
    refine zz_aload_n dX5_has_9 rfl ?_
    refine zz_iload_n dX5_has_10 rfl ?_
    refine zz_callV1 (ci := 5) (m_isE _) dX5_has_11 zw_m_X5_59 wYX5_isElement wDX5_isElement rfl (by omega) pm_o rfl (Nat.le_of_ble_eq_true rfl) (by decide) rfl ?_
    refine zz_if_eq (tgt := 31) dX5_has_14 (by decide) (fun _ => ?_) (fun q => absurd (by rw [h2]; rfl) q)
    refine zz_aload_n dX5_has_31 rfl ?_
    refine zz_iconst (v := 1) dX5_has_32 (by decide) ?_
    refine zz_callV1 (ci := 5) (m_denies 1) dX5_has_33 zw_m_X5_87 wYX5_denies wDX5_denies rfl (by omega) pm_o rfl (Nat.le_of_ble_eq_true rfl) (by decide) rfl ?_
    refine zz_zret dX5_has_36 rfl (by first | rfl | exact zB_nar _) ?_
    exact ⟨rfl, rfl⟩
set_option maxHeartbeats 1000000 in
set_option maxRecDepth 20000 in
theorem m_count_v {r : Nat} (hr : r < 4) (hn : n ≤ 80) : zz_C mX5_count 4 0 0 [.ref 54, .int (nI r)] (pm MB MI (nI n) mt T) (fun o τ => o = .inl (some (.int (nI (sm (fun j => cnt (fun k => MB 55 (6400 * r + 80 * j + k)) n) n)))) ∧ τ = pm MB MI (nI n) 0 T) := by
  have e1 := isR_t hr
  · refine zz_start wPX5_count rfl rfl (Nat.le_of_ble_eq_true rfl) ?_
    refine zz_iload_n dX5_count_0 rfl ?_
    refine zz_callS1 (m_isR _) dX5_count_1 zw_m_X5_55 wYX5_isRelation wDX5_isRelation rfl (Nat.le_of_ble_eq_true rfl) (by decide) rfl ?_
    refine zz_if_eq (tgt := 19) dX5_count_4 (by decide) (fun q => absurd q (by rw [e1]; decide)) (fun _ => ?_)
    refine zz_aload_n dX5_count_7 rfl ?_
    refine zz_aload_n dX5_count_8 rfl ?_
    refine zz_iload_n dX5_count_9 rfl ?_
    refine zz_callV1 (ci := 5) (m_pairs hr hn) dX5_count_10 zw_m_X5_73 wYX5_pairs wDX5_pairs rfl (by omega) pm_o rfl (Nat.le_of_ble_eq_true rfl) (by decide) rfl ?_
    refine zz_callV1 (ci := 5) (m_told _) dX5_count_13 zw_m_X5_80 wYX5_told wDX5_told rfl (by omega) pm_o rfl (Nat.le_of_ble_eq_true rfl) (by decide) rfl ?_
    refine zz_goto (tgt := 24) dX5_count_16 (by decide) ?_
    refine zz_iret dX5_count_24 rfl ?_
    exact ⟨rfl, rfl⟩
set_option maxHeartbeats 1000000 in
set_option maxRecDepth 20000 in
theorem m_count_x {v : Int32} (h : isR v = false) : zz_C mX5_count 4 0 0 [.ref 54, .int v] (pm MB MI (nI n) mt T) (fun o τ => o = .inl (some (.int 0)) ∧ τ = pm MB MI (nI n) 1 T) := by
  · refine zz_start wPX5_count rfl rfl (Nat.le_of_ble_eq_true rfl) ?_
    refine zz_iload_n dX5_count_0 rfl ?_
    refine zz_callS1 (m_isR _) dX5_count_1 zw_m_X5_55 wYX5_isRelation wDX5_isRelation rfl (Nat.le_of_ble_eq_true rfl) (by decide) rfl ?_
    refine zz_if_eq (tgt := 19) dX5_count_4 (by decide) (fun _ => ?_) (fun q => absurd (by rw [h]; rfl) q)
    refine zz_aload_n dX5_count_19 rfl ?_
    refine zz_iconst (v := 1) dX5_count_20 (by decide) ?_
    refine zz_callV1 (ci := 5) (m_refuse 1) dX5_count_21 zw_m_X5_77 wYX5_refuse wDX5_refuse rfl (by omega) pm_o rfl (Nat.le_of_ble_eq_true rfl) (by decide) rfl ?_
    refine zz_iret dX5_count_24 rfl ?_
    exact ⟨rfl, rfl⟩
set_option maxHeartbeats 1000000 in
set_option maxRecDepth 20000 in
theorem m_countOf_v {r j : Nat} (hr : r < 4) (hj : j < n) (hn : n ≤ 80) : zz_C mX5_countOf 3 0 0 [.ref 54, .int (nI r), .int (nI j)] (pm MB MI (nI n) mt T) (fun o τ => o = .inl (some (.int (nI (cnt (fun k => MB 55 (6400 * r + 80 * j + k)) n)))) ∧ τ = pm MB MI (nI n) 0 T) := by
  have e1 : (isR (nI r) && isE n (nI j)) = true := and_t (isR_t hr) (isE_n hn hj)
  · refine zz_start wPX5_countOf rfl rfl (Nat.le_of_ble_eq_true rfl) ?_
    refine zz_aload_n dX5_countOf_0 rfl ?_
    refine zz_iload_n dX5_countOf_1 rfl ?_
    refine zz_iload_n dX5_countOf_2 rfl ?_
    refine zz_callV1 (ci := 5) (m_isRow _ _) dX5_countOf_3 zw_m_X5_83 wYX5_isRow wDX5_isRow rfl (by omega) pm_o rfl (Nat.le_of_ble_eq_true rfl) (by decide) rfl ?_
    refine zz_if_eq (tgt := 22) dX5_countOf_6 (by decide) (fun q => absurd q (by rw [e1]; decide)) (fun _ => ?_)
    refine zz_aload_n dX5_countOf_9 rfl ?_
    refine zz_aload_n dX5_countOf_10 rfl ?_
    refine zz_iload_n dX5_countOf_11 rfl ?_
    refine zz_iload_n dX5_countOf_12 rfl ?_
    refine zz_callV1 (ci := 5) (m_inRow hr (show j < 80 by omega) hn) dX5_countOf_13 zw_m_X5_69 wYX5_inRow wDX5_inRow rfl (by omega) pm_o rfl (Nat.le_of_ble_eq_true rfl) (by decide) rfl ?_
    refine zz_callV1 (ci := 5) (m_told _) dX5_countOf_16 zw_m_X5_80 wYX5_told wDX5_told rfl (by omega) pm_o rfl (Nat.le_of_ble_eq_true rfl) (by decide) rfl ?_
    refine zz_goto (tgt := 27) dX5_countOf_19 (by decide) ?_
    refine zz_iret dX5_countOf_27 rfl ?_
    exact ⟨rfl, rfl⟩
set_option maxHeartbeats 1000000 in
set_option maxRecDepth 20000 in
theorem m_countOf_x {v w : Int32} (h : (isR v && isE n w) = false) : zz_C mX5_countOf 3 0 0 [.ref 54, .int v, .int w] (pm MB MI (nI n) mt T) (fun o τ => o = .inl (some (.int 0)) ∧ τ = pm MB MI (nI n) 1 T) := by
  · refine zz_start wPX5_countOf rfl rfl (Nat.le_of_ble_eq_true rfl) ?_
    refine zz_aload_n dX5_countOf_0 rfl ?_
    refine zz_iload_n dX5_countOf_1 rfl ?_
    refine zz_iload_n dX5_countOf_2 rfl ?_
    refine zz_callV1 (ci := 5) (m_isRow _ _) dX5_countOf_3 zw_m_X5_83 wYX5_isRow wDX5_isRow rfl (by omega) pm_o rfl (Nat.le_of_ble_eq_true rfl) (by decide) rfl ?_
    refine zz_if_eq (tgt := 22) dX5_countOf_6 (by decide) (fun _ => ?_) (fun q => absurd (by rw [h]; rfl) q)
    refine zz_aload_n dX5_countOf_22 rfl ?_
    refine zz_iconst (v := 1) dX5_countOf_23 (by decide) ?_
    refine zz_callV1 (ci := 5) (m_refuse 1) dX5_countOf_24 zw_m_X5_77 wYX5_refuse wDX5_refuse rfl (by omega) pm_o rfl (Nat.le_of_ble_eq_true rfl) (by decide) rfl ?_
    refine zz_iret dX5_countOf_27 rfl ?_
    exact ⟨rfl, rfl⟩
set_option maxHeartbeats 1000000 in
set_option maxRecDepth 20000 in
theorem ml_meet {r i0 w j0 : Nat} (hr : r < 4) (hi0 : i0 < n) (hw : w < 4) (hj0 : j0 < n) (hn : n ≤ 80) : ∀ (m i : Nat), i + m = n → zz_E mX5_meet none 3 0 0 (fun o τ => o = .inl (some (.int (zB (anb (fun k => MB 55 (6400 * r + 80 * i0 + k) && MB 55 (6400 * w + 80 * j0 + k)) n)))) ∧ τ = pm MB MI (nI n) 0 T) 31 [(6, .int (nI i)), (5, .int (zB (anb (fun k => MB 55 (6400 * r + 80 * i0 + k) && MB 55 (6400 * w + 80 * j0 + k)) i))), (0, .ref 54), (1, .int (nI r)), (2, .int (nI i0)), (3, .int (nI w)), (4, .int (nI j0))] [] (pm MB MI (nI n) mt T) := by
  intro m
  induction m with
  | zero =>
    intro i hi
    have hi : n = i := by omega
    subst hi
    refine zz_iload dX5_meet_31 rfl ?_
    refine zz_aload_n dX5_meet_33 rfl ?_
    refine zz_get (ci := 5) (j := 2) zz_inX5 rfl zw_f_X5_16 rfl (by decide) dX5_meet_34 (by omega) pm_o rfl ?_
    refine zz_icmp_ge (tgt := 81) dX5_meet_37 (by decide) (fun _ => ?_) (fun h => absurd (nI_le (by omega) (by omega)) h)
    refine zz_aload_n dX5_meet_81 rfl ?_
    refine zz_iload dX5_meet_82 rfl ?_
    refine zz_callV1 (ci := 5) (m_says _) dX5_meet_84 zw_m_X5_90 wYX5_says wDX5_says rfl (by omega) pm_o rfl (Nat.le_of_ble_eq_true rfl) (by decide) rfl ?_
    refine zz_zret dX5_meet_87 rfl (by first | rfl | exact zB_nar _) ?_
    exact ⟨rfl, rfl⟩
  | succ m ih =>
    intro i hi
    refine zz_iload dX5_meet_31 rfl ?_
    refine zz_aload_n dX5_meet_33 rfl ?_
    refine zz_get (ci := 5) (j := 2) zz_inX5 rfl zw_f_X5_16 rfl (by decide) dX5_meet_34 (by omega) pm_o rfl ?_
    refine zz_icmp_ge (tgt := 81) dX5_meet_37 (by decide) (fun h => absurd h (nI_ge (by omega) (by omega))) (fun _ => ?_)
    refine zz_iload dX5_meet_40 rfl ?_
    refine zz_if_ne (tgt := 68) dX5_meet_42 (by decide) (fun h42 => ?_) (fun h42 => ?_)
    · refine zz_iconst (v := 1) dX5_meet_68 (by decide) ?_
      refine zz_goto (tgt := 73) dX5_meet_69 (by decide) ?_
      refine zz_istore dX5_meet_73 (by decide) ?_
      refine zz_iinc (v := nI (i + 1)) dX5_meet_75 rfl (nI_1 i) (by decide) ?_
      refine zz_goto (tgt := 31) dX5_meet_78 (by decide) ?_
      have h9 := ih (i + 1) (by omega)
      have e9 : anb (fun k => MB 55 (6400 * r + 80 * i0 + k) && MB 55 (6400 * w + 80 * j0 + k)) (i + 1) = (anb (fun k => MB 55 (6400 * r + 80 * i0 + k) && MB 55 (6400 * w + 80 * j0 + k)) i || (MB 55 (6400 * r + 80 * i0 + i) && MB 55 (6400 * w + 80 * j0 + i))) := rfl
      rw [e9] at h9
      first
        | (simp only [zB_n.mp h42, Bool.true_or] at h9; exact h9)
        | (simp only [zB_0.mp h42, zB_0.mp h53, Bool.false_and, Bool.or_false] at h9; exact h9)
        | (simp only [zB_0.mp h42, zB_n.mp h53, zB_0.mp h65, Bool.true_and, Bool.or_false] at h9; exact h9)
        | (simp only [zB_0.mp h42, zB_n.mp h53, zB_n.mp h65, Bool.true_and, Bool.or_true] at h9; exact h9)
    · refine zz_aload_n dX5_meet_45 rfl ?_
      refine zz_iload_n dX5_meet_46 rfl ?_
      refine zz_iload_n dX5_meet_47 rfl ?_
      refine zz_iload dX5_meet_48 rfl ?_
      refine zz_callV1 (ci := 5) (m_leads hr (show i0 < 80 by omega) (show i < 80 by omega)) dX5_meet_50 zw_m_X5_66 wYX5_leads wDX5_leads rfl (by omega) pm_o rfl (Nat.le_of_ble_eq_true rfl) (by decide) rfl ?_
      refine zz_if_eq (tgt := 72) dX5_meet_53 (by decide) (fun h53 => ?_) (fun h53 => ?_)
      · refine zz_iconst (v := 0) dX5_meet_72 (by decide) ?_
        refine zz_istore dX5_meet_73 (by decide) ?_
        refine zz_iinc (v := nI (i + 1)) dX5_meet_75 rfl (nI_1 i) (by decide) ?_
        refine zz_goto (tgt := 31) dX5_meet_78 (by decide) ?_
        have h9 := ih (i + 1) (by omega)
        have e9 : anb (fun k => MB 55 (6400 * r + 80 * i0 + k) && MB 55 (6400 * w + 80 * j0 + k)) (i + 1) = (anb (fun k => MB 55 (6400 * r + 80 * i0 + k) && MB 55 (6400 * w + 80 * j0 + k)) i || (MB 55 (6400 * r + 80 * i0 + i) && MB 55 (6400 * w + 80 * j0 + i))) := rfl
        rw [e9] at h9
        first
          | (simp only [zB_n.mp h42, Bool.true_or] at h9; exact h9)
          | (simp only [zB_0.mp h42, zB_0.mp h53, Bool.false_and, Bool.or_false] at h9; exact h9)
          | (simp only [zB_0.mp h42, zB_n.mp h53, zB_0.mp h65, Bool.true_and, Bool.or_false] at h9; exact h9)
          | (simp only [zB_0.mp h42, zB_n.mp h53, zB_n.mp h65, Bool.true_and, Bool.or_true] at h9; exact h9)
      · refine zz_aload_n dX5_meet_56 rfl ?_
        refine zz_iload_n dX5_meet_57 rfl ?_
        refine zz_iload dX5_meet_58 rfl ?_
        refine zz_iload dX5_meet_60 rfl ?_
        refine zz_callV1 (ci := 5) (m_leads hw (show j0 < 80 by omega) (show i < 80 by omega)) dX5_meet_62 zw_m_X5_66 wYX5_leads wDX5_leads rfl (by omega) pm_o rfl (Nat.le_of_ble_eq_true rfl) (by decide) rfl ?_
        refine zz_if_eq (tgt := 72) dX5_meet_65 (by decide) (fun h65 => ?_) (fun h65 => ?_)
        · refine zz_iconst (v := 0) dX5_meet_72 (by decide) ?_
          refine zz_istore dX5_meet_73 (by decide) ?_
          refine zz_iinc (v := nI (i + 1)) dX5_meet_75 rfl (nI_1 i) (by decide) ?_
          refine zz_goto (tgt := 31) dX5_meet_78 (by decide) ?_
          have h9 := ih (i + 1) (by omega)
          have e9 : anb (fun k => MB 55 (6400 * r + 80 * i0 + k) && MB 55 (6400 * w + 80 * j0 + k)) (i + 1) = (anb (fun k => MB 55 (6400 * r + 80 * i0 + k) && MB 55 (6400 * w + 80 * j0 + k)) i || (MB 55 (6400 * r + 80 * i0 + i) && MB 55 (6400 * w + 80 * j0 + i))) := rfl
          rw [e9] at h9
          first
            | (simp only [zB_n.mp h42, Bool.true_or] at h9; exact h9)
            | (simp only [zB_0.mp h42, zB_0.mp h53, Bool.false_and, Bool.or_false] at h9; exact h9)
            | (simp only [zB_0.mp h42, zB_n.mp h53, zB_0.mp h65, Bool.true_and, Bool.or_false] at h9; exact h9)
            | (simp only [zB_0.mp h42, zB_n.mp h53, zB_n.mp h65, Bool.true_and, Bool.or_true] at h9; exact h9)
        · refine zz_iconst (v := 1) dX5_meet_68 (by decide) ?_
          refine zz_goto (tgt := 73) dX5_meet_69 (by decide) ?_
          refine zz_istore dX5_meet_73 (by decide) ?_
          refine zz_iinc (v := nI (i + 1)) dX5_meet_75 rfl (nI_1 i) (by decide) ?_
          refine zz_goto (tgt := 31) dX5_meet_78 (by decide) ?_
          have h9 := ih (i + 1) (by omega)
          have e9 : anb (fun k => MB 55 (6400 * r + 80 * i0 + k) && MB 55 (6400 * w + 80 * j0 + k)) (i + 1) = (anb (fun k => MB 55 (6400 * r + 80 * i0 + k) && MB 55 (6400 * w + 80 * j0 + k)) i || (MB 55 (6400 * r + 80 * i0 + i) && MB 55 (6400 * w + 80 * j0 + i))) := rfl
          rw [e9] at h9
          first
            | (simp only [zB_n.mp h42, Bool.true_or] at h9; exact h9)
            | (simp only [zB_0.mp h42, zB_0.mp h53, Bool.false_and, Bool.or_false] at h9; exact h9)
            | (simp only [zB_0.mp h42, zB_n.mp h53, zB_0.mp h65, Bool.true_and, Bool.or_false] at h9; exact h9)
            | (simp only [zB_0.mp h42, zB_n.mp h53, zB_n.mp h65, Bool.true_and, Bool.or_true] at h9; exact h9)
set_option maxHeartbeats 1000000 in
set_option maxRecDepth 20000 in
theorem m_meet_v {r i0 w j0 : Nat} (hr : r < 4) (hi0 : i0 < n) (hw : w < 4) (hj0 : j0 < n) (hn : n ≤ 80) : zz_C mX5_meet 3 0 0 [.ref 54, .int (nI r), .int (nI i0), .int (nI w), .int (nI j0)] (pm MB MI (nI n) mt T) (fun o τ => o = .inl (some (.int (zB (anb (fun k => MB 55 (6400 * r + 80 * i0 + k) && MB 55 (6400 * w + 80 * j0 + k)) n)))) ∧ τ = pm MB MI (nI n) 0 T) := by
  have e1 : (isR (nI r) && isE n (nI i0)) = true := and_t (isR_t hr) (isE_n hn hi0)
  have e2 : (isR (nI w) && isE n (nI j0)) = true := and_t (isR_t hw) (isE_n hn hj0)
  · refine zz_start wPX5_meet rfl rfl (Nat.le_of_ble_eq_true rfl) ?_
    refine zz_aload_n dX5_meet_0 rfl ?_
    refine zz_iload_n dX5_meet_1 rfl ?_
    refine zz_iload_n dX5_meet_2 rfl ?_
    refine zz_callV1 (ci := 5) (m_isRow _ _) dX5_meet_3 zw_m_X5_83 wYX5_isRow wDX5_isRow rfl (by omega) pm_o rfl (Nat.le_of_ble_eq_true rfl) (by decide) rfl ?_
    refine zz_if_eq (tgt := 19) dX5_meet_6 (by decide) (fun q => absurd q (by rw [e1]; decide)) (fun _ => ?_)
    refine zz_aload_n dX5_meet_9 rfl ?_
    refine zz_iload_n dX5_meet_10 rfl ?_
    refine zz_iload dX5_meet_11 rfl ?_
    refine zz_callV1 (ci := 5) (m_isRow _ _) dX5_meet_13 zw_m_X5_83 wYX5_isRow wDX5_isRow rfl (by omega) pm_o rfl (Nat.le_of_ble_eq_true rfl) (by decide) rfl ?_
    refine zz_if_ne (tgt := 25) dX5_meet_16 (by decide) (fun _ => ?_) (fun q => absurd q (by rw [e2]; decide))
    refine zz_iconst (v := 0) dX5_meet_25 (by decide) ?_
    refine zz_istore dX5_meet_26 (by decide) ?_
    refine zz_iconst (v := 0) dX5_meet_28 (by decide) ?_
    refine zz_istore dX5_meet_29 (by decide) ?_
    exact ml_meet (MB := MB) (MI := MI) (mt := mt) (T := T) hr hi0 hw hj0 hn n 0 (by omega)
set_option maxHeartbeats 1000000 in
set_option maxRecDepth 20000 in
theorem m_meet_x {v u w x : Int32} (h : ((isR v && isE n u) && (isR w && isE n x)) = false) : zz_C mX5_meet 3 0 0 [.ref 54, .int v, .int u, .int w, .int x] (pm MB MI (nI n) mt T) (fun o τ => o = .inl (some (.int (zB false))) ∧ τ = pm MB MI (nI n) 1 T) := by
  rcases and_f h with h1 | ⟨h1, h2⟩
  · refine zz_start wPX5_meet rfl rfl (Nat.le_of_ble_eq_true rfl) ?_
    refine zz_aload_n dX5_meet_0 rfl ?_
    refine zz_iload_n dX5_meet_1 rfl ?_
    refine zz_iload_n dX5_meet_2 rfl ?_
    refine zz_callV1 (ci := 5) (m_isRow _ _) dX5_meet_3 zw_m_X5_83 wYX5_isRow wDX5_isRow rfl (by omega) pm_o rfl (Nat.le_of_ble_eq_true rfl) (by decide) rfl ?_
    refine zz_if_eq (tgt := 19) dX5_meet_6 (by decide) (fun _ => ?_) (fun q => absurd (by rw [h1]; rfl) q)
    refine zz_aload_n dX5_meet_19 rfl ?_
    refine zz_iconst (v := 1) dX5_meet_20 (by decide) ?_
    refine zz_callV1 (ci := 5) (m_denies 1) dX5_meet_21 zw_m_X5_87 wYX5_denies wDX5_denies rfl (by omega) pm_o rfl (Nat.le_of_ble_eq_true rfl) (by decide) rfl ?_
    refine zz_zret dX5_meet_24 rfl (by first | rfl | exact zB_nar _) ?_
    exact ⟨rfl, rfl⟩
  · refine zz_start wPX5_meet rfl rfl (Nat.le_of_ble_eq_true rfl) ?_
    refine zz_aload_n dX5_meet_0 rfl ?_
    refine zz_iload_n dX5_meet_1 rfl ?_
    refine zz_iload_n dX5_meet_2 rfl ?_
    refine zz_callV1 (ci := 5) (m_isRow _ _) dX5_meet_3 zw_m_X5_83 wYX5_isRow wDX5_isRow rfl (by omega) pm_o rfl (Nat.le_of_ble_eq_true rfl) (by decide) rfl ?_
    refine zz_if_eq (tgt := 19) dX5_meet_6 (by decide) (fun q => absurd q (by rw [h1]; decide)) (fun _ => ?_)
    refine zz_aload_n dX5_meet_9 rfl ?_
    refine zz_iload_n dX5_meet_10 rfl ?_
    refine zz_iload dX5_meet_11 rfl ?_
    refine zz_callV1 (ci := 5) (m_isRow _ _) dX5_meet_13 zw_m_X5_83 wYX5_isRow wDX5_isRow rfl (by omega) pm_o rfl (Nat.le_of_ble_eq_true rfl) (by decide) rfl ?_
    refine zz_if_ne (tgt := 25) dX5_meet_16 (by decide) (fun q => absurd (by rw [h2]; rfl) q) (fun _ => ?_)
    refine zz_aload_n dX5_meet_19 rfl ?_
    refine zz_iconst (v := 1) dX5_meet_20 (by decide) ?_
    refine zz_callV1 (ci := 5) (m_denies 1) dX5_meet_21 zw_m_X5_87 wYX5_denies wDX5_denies rfl (by omega) pm_o rfl (Nat.le_of_ble_eq_true rfl) (by decide) rfl ?_
    refine zz_zret dX5_meet_24 rfl (by first | rfl | exact zB_nar _) ?_
    exact ⟨rfl, rfl⟩
def cmV (a b : Bool) : Int32 := zB a + (if b = true then 2 else 0)
set_option maxHeartbeats 1000000 in
set_option maxRecDepth 20000 in
theorem ml_cmpr {r w : Nat} (hr : r < 4) (hw : w < 4) (hn : n ≤ 80) : ∀ (m i : Nat), i + m = 6400 → zz_E mX5_compare none 2 0 0 (fun o τ => o = .inl (some (.int (cmV (anb (fun k => MB 55 (6400 * r + k) && !(MB 55 (6400 * w + k))) 6400) (anb (fun k => !(MB 55 (6400 * r + k)) && MB 55 (6400 * w + k)) 6400)))) ∧ τ = pm MB MI (nI n) 0 T) 28 [(5, .int (nI i)), (4, .int (zB (anb (fun k => !(MB 55 (6400 * r + k)) && MB 55 (6400 * w + k)) i))), (3, .int (zB (anb (fun k => MB 55 (6400 * r + k) && !(MB 55 (6400 * w + k))) i))), (0, .ref 54), (1, .int (nI r)), (2, .int (nI w))] [] (pm MB MI (nI n) mt T) := by
  intro m
  induction m with
  | zero =>
    intro i hi
    have hi : i = 6400 := by omega
    subst hi
    refine zz_iload dX5_compare_28 rfl ?_
    refine zz_sipush (v := 6400) dX5_compare_30 (by decide) ?_
    refine zz_icmp_ge (tgt := 128) dX5_compare_33 (by decide) (fun _ => ?_) (fun h => absurd (nI_le (a := 6400) (by omega) (by omega)) h)
    refine zz_aload_n dX5_compare_128 rfl ?_
    refine zz_iload_n dX5_compare_129 rfl ?_
    refine zz_if_eq (tgt := 137) dX5_compare_130 (by decide) (fun h130 => ?_) (fun h130 => ?_)
    · refine zz_iconst (v := 0) dX5_compare_137 (by decide) ?_
      refine zz_iload dX5_compare_138 rfl ?_
      refine zz_if_eq (tgt := 147) dX5_compare_140 (by decide) (fun h140 => ?_) (fun h140 => ?_)
      · refine zz_iconst (v := 0) dX5_compare_147 (by decide) ?_
        refine zz_iadd dX5_compare_148 ?_
        refine zz_callV1 (ci := 5) (m_told _) dX5_compare_149 zw_m_X5_80 wYX5_told wDX5_told rfl (by omega) pm_o rfl (Nat.le_of_ble_eq_true rfl) (by decide) rfl ?_
        refine zz_iret dX5_compare_152 rfl ?_
        refine ⟨?_, rfl⟩
        unfold cmV
        first
          | (rw [zB_0.mp h130, zB_0.mp h140]; rfl)
          | (rw [zB_0.mp h130, zB_n.mp h140]; rfl)
          | (rw [zB_n.mp h130, zB_0.mp h140]; rfl)
          | (rw [zB_n.mp h130, zB_n.mp h140]; rfl)
      · refine zz_iconst (v := 2) dX5_compare_143 (by decide) ?_
        refine zz_goto (tgt := 148) dX5_compare_144 (by decide) ?_
        refine zz_iadd dX5_compare_148 ?_
        refine zz_callV1 (ci := 5) (m_told _) dX5_compare_149 zw_m_X5_80 wYX5_told wDX5_told rfl (by omega) pm_o rfl (Nat.le_of_ble_eq_true rfl) (by decide) rfl ?_
        refine zz_iret dX5_compare_152 rfl ?_
        refine ⟨?_, rfl⟩
        unfold cmV
        first
          | (rw [zB_0.mp h130, zB_0.mp h140]; rfl)
          | (rw [zB_0.mp h130, zB_n.mp h140]; rfl)
          | (rw [zB_n.mp h130, zB_0.mp h140]; rfl)
          | (rw [zB_n.mp h130, zB_n.mp h140]; rfl)
    · refine zz_iconst (v := 1) dX5_compare_133 (by decide) ?_
      refine zz_goto (tgt := 138) dX5_compare_134 (by decide) ?_
      refine zz_iload dX5_compare_138 rfl ?_
      refine zz_if_eq (tgt := 147) dX5_compare_140 (by decide) (fun h140 => ?_) (fun h140 => ?_)
      · refine zz_iconst (v := 0) dX5_compare_147 (by decide) ?_
        refine zz_iadd dX5_compare_148 ?_
        refine zz_callV1 (ci := 5) (m_told _) dX5_compare_149 zw_m_X5_80 wYX5_told wDX5_told rfl (by omega) pm_o rfl (Nat.le_of_ble_eq_true rfl) (by decide) rfl ?_
        refine zz_iret dX5_compare_152 rfl ?_
        refine ⟨?_, rfl⟩
        unfold cmV
        first
          | (rw [zB_0.mp h130, zB_0.mp h140]; rfl)
          | (rw [zB_0.mp h130, zB_n.mp h140]; rfl)
          | (rw [zB_n.mp h130, zB_0.mp h140]; rfl)
          | (rw [zB_n.mp h130, zB_n.mp h140]; rfl)
      · refine zz_iconst (v := 2) dX5_compare_143 (by decide) ?_
        refine zz_goto (tgt := 148) dX5_compare_144 (by decide) ?_
        refine zz_iadd dX5_compare_148 ?_
        refine zz_callV1 (ci := 5) (m_told _) dX5_compare_149 zw_m_X5_80 wYX5_told wDX5_told rfl (by omega) pm_o rfl (Nat.le_of_ble_eq_true rfl) (by decide) rfl ?_
        refine zz_iret dX5_compare_152 rfl ?_
        refine ⟨?_, rfl⟩
        unfold cmV
        first
          | (rw [zB_0.mp h130, zB_0.mp h140]; rfl)
          | (rw [zB_0.mp h130, zB_n.mp h140]; rfl)
          | (rw [zB_n.mp h130, zB_0.mp h140]; rfl)
          | (rw [zB_n.mp h130, zB_n.mp h140]; rfl)
  | succ m ih =>
    intro i hi
    refine zz_iload dX5_compare_28 rfl ?_
    refine zz_sipush (v := 6400) dX5_compare_30 (by decide) ?_
    refine zz_icmp_ge (tgt := 128) dX5_compare_33 (by decide) (fun h => absurd h (nI_ge (b := 6400) (by omega) (by omega))) (fun _ => ?_)
    suffices K : zz_E mX5_compare none 2 0 0 (fun o τ => o = .inl (some (.int (cmV (anb (fun k => MB 55 (6400 * r + k) && !(MB 55 (6400 * w + k))) 6400) (anb (fun k => !(MB 55 (6400 * r + k)) && MB 55 (6400 * w + k)) 6400)))) ∧ τ = pm MB MI (nI n) 0 T) 77 [(5, .int (nI i)), (4, .int (zB (anb (fun k => !(MB 55 (6400 * r + k)) && MB 55 (6400 * w + k)) i))), (3, .int (zB (anb (fun k => MB 55 (6400 * r + k) && !(MB 55 (6400 * w + k))) i))), (0, .ref 54), (1, .int (nI r)), (2, .int (nI w))] [.int (zB (anb (fun k => MB 55 (6400 * r + k) && !(MB 55 (6400 * w + k))) i || (MB 55 (6400 * r + i) && !(MB 55 (6400 * w + i)))))] (pm MB MI (nI n) mt T) by
      refine zz_iload_n dX5_compare_36 rfl ?_
      refine zz_if_ne (tgt := 72) dX5_compare_37 (by decide) (fun h37 => ?_) (fun h37 => ?_)
      · refine zz_iconst (v := 1) dX5_compare_72 (by decide) ?_
        refine zz_goto (tgt := 77) dX5_compare_73 (by decide) ?_
        refine zz_tope (y := zB (anb (fun k => MB 55 (6400 * r + k) && !(MB 55 (6400 * w + k))) i || (MB 55 (6400 * r + i) && !(MB 55 (6400 * w + i))))) (by first | (rw [zB_n.mp h37]; rfl) | (rw [zB_0.mp h37, zB_0.mp h53]; rfl) | (rw [zB_0.mp h37, zB_n.mp h53, zB_n.mp h69]; rfl) | (rw [zB_0.mp h37, zB_n.mp h53, zB_0.mp h69]; rfl)) ?_
        exact K
      · refine zz_aload_n dX5_compare_40 rfl ?_
        refine zz_get (ci := 5) (j := 0) zz_inX5 rfl zw_f_X5_7 rfl (by decide) dX5_compare_41 (by omega) pm_o rfl ?_
        refine zz_sipush (v := 6400) dX5_compare_44 (by decide) ?_
        refine zz_iload_n dX5_compare_47 rfl ?_
        refine zz_imul dX5_compare_48 ?_
        refine zz_iload dX5_compare_49 rfl ?_
        refine zz_iadd dX5_compare_51 ?_
        refine zz_tope (y := nI (6400 * r + i)) (by simp only [i80, i6400, pk_mul, nI_add, nI_1]) ?_
        refine zl_mb dX5_compare_52 (by omega) (by simp only [ml55, ml56, ml57, ml58, ml59, ml60, ml61]; omega) (by simp only [ml55, ml56, ml57, ml58, ml59, ml60, ml61]; omega) ?_
        refine zz_if_eq (tgt := 76) dX5_compare_53 (by decide) (fun h53 => ?_) (fun h53 => ?_)
        · refine zz_iconst (v := 0) dX5_compare_76 (by decide) ?_
          refine zz_tope (y := zB (anb (fun k => MB 55 (6400 * r + k) && !(MB 55 (6400 * w + k))) i || (MB 55 (6400 * r + i) && !(MB 55 (6400 * w + i))))) (by first | (rw [zB_n.mp h37]; rfl) | (rw [zB_0.mp h37, zB_0.mp h53]; rfl) | (rw [zB_0.mp h37, zB_n.mp h53, zB_n.mp h69]; rfl) | (rw [zB_0.mp h37, zB_n.mp h53, zB_0.mp h69]; rfl)) ?_
          exact K
        · refine zz_aload_n dX5_compare_56 rfl ?_
          refine zz_get (ci := 5) (j := 0) zz_inX5 rfl zw_f_X5_7 rfl (by decide) dX5_compare_57 (by omega) pm_o rfl ?_
          refine zz_sipush (v := 6400) dX5_compare_60 (by decide) ?_
          refine zz_iload_n dX5_compare_63 rfl ?_
          refine zz_imul dX5_compare_64 ?_
          refine zz_iload dX5_compare_65 rfl ?_
          refine zz_iadd dX5_compare_67 ?_
          refine zz_tope (y := nI (6400 * w + i)) (by simp only [i80, i6400, pk_mul, nI_add, nI_1]) ?_
          refine zl_mb dX5_compare_68 (by omega) (by simp only [ml55, ml56, ml57, ml58, ml59, ml60, ml61]; omega) (by simp only [ml55, ml56, ml57, ml58, ml59, ml60, ml61]; omega) ?_
          refine zz_if_ne (tgt := 76) dX5_compare_69 (by decide) (fun h69 => ?_) (fun h69 => ?_)
          · refine zz_iconst (v := 0) dX5_compare_76 (by decide) ?_
            refine zz_tope (y := zB (anb (fun k => MB 55 (6400 * r + k) && !(MB 55 (6400 * w + k))) i || (MB 55 (6400 * r + i) && !(MB 55 (6400 * w + i))))) (by first | (rw [zB_n.mp h37]; rfl) | (rw [zB_0.mp h37, zB_0.mp h53]; rfl) | (rw [zB_0.mp h37, zB_n.mp h53, zB_n.mp h69]; rfl) | (rw [zB_0.mp h37, zB_n.mp h53, zB_0.mp h69]; rfl)) ?_
            exact K
          · refine zz_iconst (v := 1) dX5_compare_72 (by decide) ?_
            refine zz_goto (tgt := 77) dX5_compare_73 (by decide) ?_
            refine zz_tope (y := zB (anb (fun k => MB 55 (6400 * r + k) && !(MB 55 (6400 * w + k))) i || (MB 55 (6400 * r + i) && !(MB 55 (6400 * w + i))))) (by first | (rw [zB_n.mp h37]; rfl) | (rw [zB_0.mp h37, zB_0.mp h53]; rfl) | (rw [zB_0.mp h37, zB_n.mp h53, zB_n.mp h69]; rfl) | (rw [zB_0.mp h37, zB_n.mp h53, zB_0.mp h69]; rfl)) ?_
            exact K
    refine zz_istore_n dX5_compare_77 (by decide) ?_
    refine zz_lvs (lv2 := [(5, .int (nI i)), (4, .int (zB (anb (fun k => !(MB 55 (6400 * r + k)) && MB 55 (6400 * w + k)) i))), (3, .int (zB (anb (fun k => MB 55 (6400 * r + k) && !(MB 55 (6400 * w + k))) i || (MB 55 (6400 * r + i) && !(MB 55 (6400 * w + i)))))), (0, .ref 54), (1, .int (nI r)), (2, .int (nI w))]) (fun q hq => by simp only [List.mem_cons, List.not_mem_nil, or_false] at hq; rcases hq with rfl | rfl | rfl | rfl | rfl | rfl <;> simp [zz_up1, zz_up2, Value.category, f4_3]) ?_
    suffices K : zz_E mX5_compare none 2 0 0 (fun o τ => o = .inl (some (.int (cmV (anb (fun k => MB 55 (6400 * r + k) && !(MB 55 (6400 * w + k))) 6400) (anb (fun k => !(MB 55 (6400 * r + k)) && MB 55 (6400 * w + k)) 6400)))) ∧ τ = pm MB MI (nI n) 0 T) 120 [(5, .int (nI i)), (4, .int (zB (anb (fun k => !(MB 55 (6400 * r + k)) && MB 55 (6400 * w + k)) i))), (3, .int (zB (anb (fun k => MB 55 (6400 * r + k) && !(MB 55 (6400 * w + k))) i || (MB 55 (6400 * r + i) && !(MB 55 (6400 * w + i)))))), (0, .ref 54), (1, .int (nI r)), (2, .int (nI w))] [.int (zB (anb (fun k => !(MB 55 (6400 * r + k)) && MB 55 (6400 * w + k)) i || (!(MB 55 (6400 * r + i)) && MB 55 (6400 * w + i))))] (pm MB MI (nI n) mt T) by
      refine zz_iload dX5_compare_78 rfl ?_
      refine zz_if_ne (tgt := 115) dX5_compare_80 (by decide) (fun h80 => ?_) (fun h80 => ?_)
      · refine zz_iconst (v := 1) dX5_compare_115 (by decide) ?_
        refine zz_goto (tgt := 120) dX5_compare_116 (by decide) ?_
        refine zz_tope (y := zB (anb (fun k => !(MB 55 (6400 * r + k)) && MB 55 (6400 * w + k)) i || (!(MB 55 (6400 * r + i)) && MB 55 (6400 * w + i)))) (by first | (rw [zB_n.mp h80]; rfl) | (rw [zB_0.mp h80, zB_n.mp h96]; rfl) | (rw [zB_0.mp h80, zB_0.mp h96, zB_0.mp h112]; rfl) | (rw [zB_0.mp h80, zB_0.mp h96, zB_n.mp h112]; rfl)) ?_
        exact K
      · refine zz_aload_n dX5_compare_83 rfl ?_
        refine zz_get (ci := 5) (j := 0) zz_inX5 rfl zw_f_X5_7 rfl (by decide) dX5_compare_84 (by omega) pm_o rfl ?_
        refine zz_sipush (v := 6400) dX5_compare_87 (by decide) ?_
        refine zz_iload_n dX5_compare_90 rfl ?_
        refine zz_imul dX5_compare_91 ?_
        refine zz_iload dX5_compare_92 rfl ?_
        refine zz_iadd dX5_compare_94 ?_
        refine zz_tope (y := nI (6400 * r + i)) (by simp only [i80, i6400, pk_mul, nI_add, nI_1]) ?_
        refine zl_mb dX5_compare_95 (by omega) (by simp only [ml55, ml56, ml57, ml58, ml59, ml60, ml61]; omega) (by simp only [ml55, ml56, ml57, ml58, ml59, ml60, ml61]; omega) ?_
        refine zz_if_ne (tgt := 119) dX5_compare_96 (by decide) (fun h96 => ?_) (fun h96 => ?_)
        · refine zz_iconst (v := 0) dX5_compare_119 (by decide) ?_
          refine zz_tope (y := zB (anb (fun k => !(MB 55 (6400 * r + k)) && MB 55 (6400 * w + k)) i || (!(MB 55 (6400 * r + i)) && MB 55 (6400 * w + i)))) (by first | (rw [zB_n.mp h80]; rfl) | (rw [zB_0.mp h80, zB_n.mp h96]; rfl) | (rw [zB_0.mp h80, zB_0.mp h96, zB_0.mp h112]; rfl) | (rw [zB_0.mp h80, zB_0.mp h96, zB_n.mp h112]; rfl)) ?_
          exact K
        · refine zz_aload_n dX5_compare_99 rfl ?_
          refine zz_get (ci := 5) (j := 0) zz_inX5 rfl zw_f_X5_7 rfl (by decide) dX5_compare_100 (by omega) pm_o rfl ?_
          refine zz_sipush (v := 6400) dX5_compare_103 (by decide) ?_
          refine zz_iload_n dX5_compare_106 rfl ?_
          refine zz_imul dX5_compare_107 ?_
          refine zz_iload dX5_compare_108 rfl ?_
          refine zz_iadd dX5_compare_110 ?_
          refine zz_tope (y := nI (6400 * w + i)) (by simp only [i80, i6400, pk_mul, nI_add, nI_1]) ?_
          refine zl_mb dX5_compare_111 (by omega) (by simp only [ml55, ml56, ml57, ml58, ml59, ml60, ml61]; omega) (by simp only [ml55, ml56, ml57, ml58, ml59, ml60, ml61]; omega) ?_
          refine zz_if_eq (tgt := 119) dX5_compare_112 (by decide) (fun h112 => ?_) (fun h112 => ?_)
          · refine zz_iconst (v := 0) dX5_compare_119 (by decide) ?_
            refine zz_tope (y := zB (anb (fun k => !(MB 55 (6400 * r + k)) && MB 55 (6400 * w + k)) i || (!(MB 55 (6400 * r + i)) && MB 55 (6400 * w + i)))) (by first | (rw [zB_n.mp h80]; rfl) | (rw [zB_0.mp h80, zB_n.mp h96]; rfl) | (rw [zB_0.mp h80, zB_0.mp h96, zB_0.mp h112]; rfl) | (rw [zB_0.mp h80, zB_0.mp h96, zB_n.mp h112]; rfl)) ?_
            exact K
          · refine zz_iconst (v := 1) dX5_compare_115 (by decide) ?_
            refine zz_goto (tgt := 120) dX5_compare_116 (by decide) ?_
            refine zz_tope (y := zB (anb (fun k => !(MB 55 (6400 * r + k)) && MB 55 (6400 * w + k)) i || (!(MB 55 (6400 * r + i)) && MB 55 (6400 * w + i)))) (by first | (rw [zB_n.mp h80]; rfl) | (rw [zB_0.mp h80, zB_n.mp h96]; rfl) | (rw [zB_0.mp h80, zB_0.mp h96, zB_0.mp h112]; rfl) | (rw [zB_0.mp h80, zB_0.mp h96, zB_n.mp h112]; rfl)) ?_
            exact K
    refine zz_istore dX5_compare_120 (by decide) ?_
    refine zz_iinc (v := nI (i + 1)) dX5_compare_122 rfl (nI_1 i) (by decide) ?_
    refine zz_goto (tgt := 28) dX5_compare_125 (by decide) ?_
    have h9 := ih (i + 1) (by omega)
    refine zz_lvs (lv2 := [(5, .int (nI (i + 1))), (4, .int (zB (anb (fun k => !(MB 55 (6400 * r + k)) && MB 55 (6400 * w + k)) (i + 1)))), (3, .int (zB (anb (fun k => MB 55 (6400 * r + k) && !(MB 55 (6400 * w + k))) (i + 1)))), (0, .ref 54), (1, .int (nI r)), (2, .int (nI w))]) (fun q hq => by simp only [List.mem_cons, List.not_mem_nil, or_false] at hq; rcases hq with rfl | rfl | rfl | rfl | rfl | rfl <;> simp [zz_up1, zz_up2, Value.category, anb]) ?_
    exact h9
set_option maxHeartbeats 1000000 in
set_option maxRecDepth 20000 in
theorem m_compare_v {r w : Nat} (hr : r < 4) (hw : w < 4) (hn : n ≤ 80) : zz_C mX5_compare 2 0 0 [.ref 54, .int (nI r), .int (nI w)] (pm MB MI (nI n) mt T) (fun o τ => o = .inl (some (.int (cmV (anb (fun k => MB 55 (6400 * r + k) && !(MB 55 (6400 * w + k))) 6400) (anb (fun k => !(MB 55 (6400 * r + k)) && MB 55 (6400 * w + k)) 6400)))) ∧ τ = pm MB MI (nI n) 0 T) := by
  have e1 := isR_t hr
  have e2 := isR_t hw
  · refine zz_start wPX5_compare rfl rfl (Nat.le_of_ble_eq_true rfl) ?_
    refine zz_iload_n dX5_compare_0 rfl ?_
    refine zz_callS1 (m_isR _) dX5_compare_1 zw_m_X5_55 wYX5_isRelation wDX5_isRelation rfl (Nat.le_of_ble_eq_true rfl) (by decide) rfl ?_
    refine zz_if_eq (tgt := 14) dX5_compare_4 (by decide) (fun q => absurd q (by rw [e1]; decide)) (fun _ => ?_)
    refine zz_iload_n dX5_compare_7 rfl ?_
    refine zz_callS1 (m_isR _) dX5_compare_8 zw_m_X5_55 wYX5_isRelation wDX5_isRelation rfl (Nat.le_of_ble_eq_true rfl) (by decide) rfl ?_
    refine zz_if_ne (tgt := 20) dX5_compare_11 (by decide) (fun _ => ?_) (fun q => absurd q (by rw [e2]; decide))
    refine zz_iconst (v := 0) dX5_compare_20 (by decide) ?_
    refine zz_istore_n dX5_compare_21 (by decide) ?_
    refine zz_iconst (v := 0) dX5_compare_22 (by decide) ?_
    refine zz_istore dX5_compare_23 (by decide) ?_
    refine zz_iconst (v := 0) dX5_compare_25 (by decide) ?_
    refine zz_istore dX5_compare_26 (by decide) ?_
    exact ml_cmpr (MB := MB) (MI := MI) (mt := mt) (T := T) hr hw hn 6400 0 (by omega)
set_option maxHeartbeats 1000000 in
set_option maxRecDepth 20000 in
theorem m_compare_x {v u : Int32} (h : (isR v && isR u) = false) : zz_C mX5_compare 2 0 0 [.ref 54, .int v, .int u] (pm MB MI (nI n) mt T) (fun o τ => o = .inl (some (.int 0)) ∧ τ = pm MB MI (nI n) 1 T) := by
  rcases and_f h with h1 | ⟨h1, h2⟩
  · refine zz_start wPX5_compare rfl rfl (Nat.le_of_ble_eq_true rfl) ?_
    refine zz_iload_n dX5_compare_0 rfl ?_
    refine zz_callS1 (m_isR _) dX5_compare_1 zw_m_X5_55 wYX5_isRelation wDX5_isRelation rfl (Nat.le_of_ble_eq_true rfl) (by decide) rfl ?_
    refine zz_if_eq (tgt := 14) dX5_compare_4 (by decide) (fun _ => ?_) (fun q => absurd (by rw [h1]; rfl) q)
    refine zz_aload_n dX5_compare_14 rfl ?_
    refine zz_iconst (v := 1) dX5_compare_15 (by decide) ?_
    refine zz_callV1 (ci := 5) (m_refuse 1) dX5_compare_16 zw_m_X5_77 wYX5_refuse wDX5_refuse rfl (by omega) pm_o rfl (Nat.le_of_ble_eq_true rfl) (by decide) rfl ?_
    refine zz_iret dX5_compare_19 rfl ?_
    exact ⟨rfl, rfl⟩
  · refine zz_start wPX5_compare rfl rfl (Nat.le_of_ble_eq_true rfl) ?_
    refine zz_iload_n dX5_compare_0 rfl ?_
    refine zz_callS1 (m_isR _) dX5_compare_1 zw_m_X5_55 wYX5_isRelation wDX5_isRelation rfl (Nat.le_of_ble_eq_true rfl) (by decide) rfl ?_
    refine zz_if_eq (tgt := 14) dX5_compare_4 (by decide) (fun q => absurd q (by rw [h1]; decide)) (fun _ => ?_)
    refine zz_iload_n dX5_compare_7 rfl ?_
    refine zz_callS1 (m_isR _) dX5_compare_8 zw_m_X5_55 wYX5_isRelation wDX5_isRelation rfl (Nat.le_of_ble_eq_true rfl) (by decide) rfl ?_
    refine zz_if_ne (tgt := 20) dX5_compare_11 (by decide) (fun q => absurd (by rw [h2]; rfl) q) (fun _ => ?_)
    refine zz_aload_n dX5_compare_14 rfl ?_
    refine zz_iconst (v := 1) dX5_compare_15 (by decide) ?_
    refine zz_callV1 (ci := 5) (m_refuse 1) dX5_compare_16 zw_m_X5_77 wYX5_refuse wDX5_refuse rfl (by omega) pm_o rfl (Nat.le_of_ble_eq_true rfl) (by decide) rfl ?_
    refine zz_iret dX5_compare_19 rfl ?_
    exact ⟨rfl, rfl⟩
end ZZM6
