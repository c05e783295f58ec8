section ZZM7
variable {MB : Nat → Nat → Bool} {MI : Nat → Nat → Int32} {n : Nat} {mt : Int32} {T : zz_St}
def upS (f : Nat → Bool) (n p : Nat) (v : Int32) : Prop := (v = -1 ∧ ∀ k, p ≤ k → k < n → f k = false) ∨ ∃ k, p ≤ k ∧ k < n ∧ f k = true ∧ (∀ j, p ≤ j → j < k → f j = false) ∧ v = nI k
def dnS (f : Nat → Bool) (p : Nat) (v : Int32) : Prop := (v = -1 ∧ ∀ k, k ≤ p → f k = false) ∨ ∃ k, k ≤ p ∧ f k = true ∧ (∀ j, k < j → j ≤ p → f j = false) ∧ v = nI k
theorem upS_u {f : Nat → Bool} {n p : Nat} {v w : Int32} (h1 : upS f n p v) (h2 : upS f n p w) : v = w := by
  rcases h1 with ⟨rfl, a⟩ | ⟨k, a1, a2, a3, a4, rfl⟩ <;> rcases h2 with ⟨rfl, b⟩ | ⟨j, b1, b2, b3, b4, rfl⟩
  · rfl
  · rw [a j b1 b2] at b3; cases b3
  · rw [b k a1 a2] at a3; cases a3
  · rcases Nat.lt_trichotomy k j with h | h | h
    · rw [b4 k a1 h] at a3; cases a3
    · rw [h]
    · rw [a4 j b1 h] at b3; cases b3
theorem dnS_u {f : Nat → Bool} {p : Nat} {v w : Int32} (h1 : dnS f p v) (h2 : dnS f p w) : v = w := by
  rcases h1 with ⟨rfl, a⟩ | ⟨k, a1, a3, a4, rfl⟩ <;> rcases h2 with ⟨rfl, b⟩ | ⟨j, b1, b3, b4, rfl⟩
  · rfl
  · rw [a j b1] at b3; cases b3
  · rw [b k a1] at a3; cases a3
  · rcases Nat.lt_trichotomy k j with h | h | h
    · rw [a4 j h b1] at b3; cases b3
    · rw [h]
    · rw [b4 k h a1] at a3; cases a3
theorem isE_d {n j : Nat} (h1 : 1 ≤ n) (hn : n ≤ 80) (hj : j ≤ 1000) : isE n (nI j) = decide (j < n) := by
  by_cases h : j < n
  · rw [isE_n hn h, decide_eq_true h]
  · rw [decide_eq_false h]
    unfold isE
    rw [show nI n - 1 = nI (n - 1) from pk_sub h1, decide_eq_false (nI_ge (a := n - 1) (b := j) (by omega) (by omega)), Bool.and_false]
theorem isE_m1 {n : Nat} : isE n (-1) = false := by
  unfold isE
  rw [decide_eq_false (show ¬ (0 : Int32) ≤ -1 by decide), Bool.false_and]
theorem zB_i {a b : Bool} : zB a = zB b ↔ a = b := by cases a <;> cases b <;> decide
theorem nI_m1 (k : Nat) : nI (k + 1) + (-1) = nI k := by rw [← nI_pred k, Int32.sub_eq_add_neg]
theorem sub_m1 (v c : Int32) : v - c + (-1) = v - (c + 1) := by
  rw [Int32.sub_eq_add_neg, Int32.sub_eq_add_neg, Int32.neg_add, Int32.sub_eq_add_neg, ← Int32.add_assoc]
theorem sub_0' {v c : Int32} : v - c = 0 ↔ c = v := by
  constructor
  · intro h
    have := congrArg (· + c) h
    simp only [Int32.sub_add_cancel] at this
    rw [this]; exact (Int32.zero_add c).symm
  · rintro rfl; exact Int32.sub_self _
def bsF (MB : Nat → Nat → Bool) (r j : Nat) (b : Bool) : Nat → Bool := fun k => MB 55 (6400 * r + 80 * j + k) == b
set_option maxHeartbeats 1000000 in
set_option maxRecDepth 20000 in
theorem ml_bsU {r j0 p0 : Nat} (hr : r < 4) (hj0 : j0 < n) (hn : n ≤ 80) {hv : Int32} (hh : ¬ (2 : Int32) ≤ hv) (b : Bool) {Q : zz_Q} (hQ : ∀ v, upS (bsF MB r j0 b) n p0 v → Q (.inl (some (.int v))) (pm MB MI (nI n) 0 T)) : ∀ (m i : Nat), i + m = n → p0 ≤ i → (∀ k, p0 ≤ k → k < i → bsF MB r j0 b k = false) → zz_E mX5_beside none 3 0 0 (Q) 60 [(6, .int (nI i)), (5, .int (zB b)), (0, .ref 54), (1, .int (nI r)), (2, .int (nI j0)), (3, .int (nI p0)), (4, .int hv)] [] (pm MB MI (nI n) mt T) := by
  intro m
  induction m with
  | zero =>
    intro i hi hp hall
    have hi : n = i := by omega
    have eE : isE n (nI i) = false := by rw [isE_d (by omega) hn (by omega), decide_eq_false (by omega)]
    refine zz_aload_n dX5_beside_60 rfl ?_
    refine zz_iload dX5_beside_61 rfl ?_
    refine zz_callV1 (ci := 5) (m_isE _) dX5_beside_63 zw_m_X5_59 wYX5_isElement wDX5_isElement rfl (by omega) pm_o rfl (Nat.le_of_ble_eq_true rfl) (by decide) rfl ?_
    refine zz_if_eq (tgt := 101) dX5_beside_66 (by decide) (fun _ => ?_) (fun q => absurd (by rw [eE]; rfl) q)
    refine zz_aload_n dX5_beside_101 rfl ?_
    refine zz_aload_n dX5_beside_102 rfl ?_
    refine zz_iload dX5_beside_103 rfl ?_
    refine zz_callV1 (ci := 5) (m_isE _) dX5_beside_105 zw_m_X5_59 wYX5_isElement wDX5_isElement rfl (by omega) pm_o rfl (Nat.le_of_ble_eq_true rfl) (by decide) rfl ?_
    refine zz_if_eq (tgt := 116) dX5_beside_108 (by decide) (fun _ => ?_) (fun q => absurd (by rw [eE]; rfl) q)
    refine zz_iconst (v := (-1)) dX5_beside_116 (by decide) ?_
    refine zz_callV1 (ci := 5) (m_told _) dX5_beside_117 zw_m_X5_80 wYX5_told wDX5_told rfl (by omega) pm_o rfl (Nat.le_of_ble_eq_true rfl) (by decide) rfl ?_
    refine zz_iret dX5_beside_120 rfl ?_
    exact hQ _ (Or.inl ⟨rfl, fun k h1 h2 => hall k h1 (by omega)⟩)
  | succ m ih =>
    intro i hi hp hall
    have eE : isE n (nI i) = true := isE_n hn (by omega)
    refine zz_aload_n dX5_beside_60 rfl ?_
    refine zz_iload dX5_beside_61 rfl ?_
    refine zz_callV1 (ci := 5) (m_isE _) dX5_beside_63 zw_m_X5_59 wYX5_isElement wDX5_isElement rfl (by omega) pm_o rfl (Nat.le_of_ble_eq_true rfl) (by decide) rfl ?_
    refine zz_if_eq (tgt := 101) dX5_beside_66 (by decide) (fun q => absurd q (by rw [eE]; decide)) (fun _ => ?_)
    refine zz_aload_n dX5_beside_69 rfl ?_
    refine zz_iload_n dX5_beside_70 rfl ?_
    refine zz_iload_n dX5_beside_71 rfl ?_
    refine zz_iload dX5_beside_72 rfl ?_
    refine zz_callV1 (ci := 5) (m_leads hr (show j0 < 80 by omega) (show i < 80 by omega)) dX5_beside_74 zw_m_X5_66 wYX5_leads wDX5_leads rfl (by omega) pm_o rfl (Nat.le_of_ble_eq_true rfl) (by decide) rfl ?_
    refine zz_iload dX5_beside_77 rfl ?_
    refine zz_icmp_eq (tgt := 101) dX5_beside_79 (by decide) (fun h79 => ?_) (fun h79 => ?_)
    · refine zz_aload_n dX5_beside_101 rfl ?_
      refine zz_aload_n dX5_beside_102 rfl ?_
      refine zz_iload dX5_beside_103 rfl ?_
      refine zz_callV1 (ci := 5) (m_isE _) dX5_beside_105 zw_m_X5_59 wYX5_isElement wDX5_isElement rfl (by omega) pm_o rfl (Nat.le_of_ble_eq_true rfl) (by decide) rfl ?_
      refine zz_if_eq (tgt := 116) dX5_beside_108 (by decide) (fun q => absurd q (by rw [eE]; decide)) (fun _ => ?_)
      refine zz_iload dX5_beside_111 rfl ?_
      refine zz_goto (tgt := 117) dX5_beside_113 (by decide) ?_
      refine zz_callV1 (ci := 5) (m_told _) dX5_beside_117 zw_m_X5_80 wYX5_told wDX5_told rfl (by omega) pm_o rfl (Nat.le_of_ble_eq_true rfl) (by decide) rfl ?_
      refine zz_iret dX5_beside_120 rfl ?_
      exact hQ _ (Or.inr ⟨i, hp, by omega, by unfold bsF; rw [zB_i.mp h79]; exact beq_self_eq_true b, hall, rfl⟩)
    · refine zz_iload dX5_beside_82 rfl ?_
      refine zz_iload dX5_beside_84 rfl ?_
      refine zz_iconst (v := 2) dX5_beside_86 (by decide) ?_
      refine zz_icmp_ge (tgt := 94) dX5_beside_87 (by decide) (fun h => absurd h hh) (fun _ => ?_)
      refine zz_iconst (v := 1) dX5_beside_90 (by decide) ?_
      refine zz_goto (tgt := 95) dX5_beside_91 (by decide) ?_
      refine zz_iadd dX5_beside_95 ?_
      refine zz_istore dX5_beside_96 (by decide) ?_
      refine zz_goto (tgt := 60) dX5_beside_98 (by decide) ?_
      rw [nI_1]
      refine ih (i + 1) (by omega) (by omega) (fun k h1 h2 => ?_)
      by_cases hk : k = i
      · subst hk; unfold bsF; rw [beq_eq_false_iff_ne]; exact fun q => h79 (zB_i.mpr q)
      · exact hall k h1 (by omega)
set_option maxHeartbeats 1000000 in
set_option maxRecDepth 20000 in
theorem ml_bsD {r j0 p0 : Nat} (hr : r < 4) (hj0 : j0 < n) (hn : n ≤ 80) (hp0 : p0 < n) {hv : Int32} (hh : (2 : Int32) ≤ hv) (b : Bool) {Q : zz_Q} (hQ : ∀ v, dnS (bsF MB r j0 b) p0 v → Q (.inl (some (.int v))) (pm MB MI (nI n) 0 T)) : ∀ (m i : Nat), i + m = p0 + 1 → (∀ k, m ≤ k → k ≤ p0 → bsF MB r j0 b k = false) → zz_E mX5_beside none 3 0 0 (Q) 60 [(6, .int (nI m + (-1))), (5, .int (zB b)), (0, .ref 54), (1, .int (nI r)), (2, .int (nI j0)), (3, .int (nI p0)), (4, .int hv)] [] (pm MB MI (nI n) mt T) := by
  intro m
  induction m with
  | zero =>
    intro i hi hall
    have e0 : nI 0 + (-1) = (-1 : Int32) := by decide
    rw [e0]
    have eE : isE n (-1) = false := isE_m1
    refine zz_aload_n dX5_beside_60 rfl ?_
    refine zz_iload dX5_beside_61 rfl ?_
    refine zz_callV1 (ci := 5) (m_isE _) dX5_beside_63 zw_m_X5_59 wYX5_isElement wDX5_isElement rfl (by omega) pm_o rfl (Nat.le_of_ble_eq_true rfl) (by decide) rfl ?_
    refine zz_if_eq (tgt := 101) dX5_beside_66 (by decide) (fun _ => ?_) (fun q => absurd (by rw [eE]; rfl) q)
    refine zz_aload_n dX5_beside_101 rfl ?_
    refine zz_aload_n dX5_beside_102 rfl ?_
    refine zz_iload dX5_beside_103 rfl ?_
    refine zz_callV1 (ci := 5) (m_isE _) dX5_beside_105 zw_m_X5_59 wYX5_isElement wDX5_isElement rfl (by omega) pm_o rfl (Nat.le_of_ble_eq_true rfl) (by decide) rfl ?_
    refine zz_if_eq (tgt := 116) dX5_beside_108 (by decide) (fun _ => ?_) (fun q => absurd (by rw [eE]; rfl) q)
    refine zz_iconst (v := (-1)) dX5_beside_116 (by decide) ?_
    refine zz_callV1 (ci := 5) (m_told _) dX5_beside_117 zw_m_X5_80 wYX5_told wDX5_told rfl (by omega) pm_o rfl (Nat.le_of_ble_eq_true rfl) (by decide) rfl ?_
    refine zz_iret dX5_beside_120 rfl ?_
    exact hQ _ (Or.inl ⟨rfl, fun k h1 => hall k (Nat.zero_le k) h1⟩)
  | succ m ih =>
    intro i hi hall
    rw [nI_m1]
    have hm : m ≤ p0 := by omega
    have eE : isE n (nI m) = true := isE_n hn (by omega)
    refine zz_aload_n dX5_beside_60 rfl ?_
    refine zz_iload dX5_beside_61 rfl ?_
    refine zz_callV1 (ci := 5) (m_isE _) dX5_beside_63 zw_m_X5_59 wYX5_isElement wDX5_isElement rfl (by omega) pm_o rfl (Nat.le_of_ble_eq_true rfl) (by decide) rfl ?_
    refine zz_if_eq (tgt := 101) dX5_beside_66 (by decide) (fun q => absurd q (by rw [eE]; decide)) (fun _ => ?_)
    refine zz_aload_n dX5_beside_69 rfl ?_
    refine zz_iload_n dX5_beside_70 rfl ?_
    refine zz_iload_n dX5_beside_71 rfl ?_
    refine zz_iload dX5_beside_72 rfl ?_
    refine zz_callV1 (ci := 5) (m_leads hr (show j0 < 80 by omega) (show m < 80 by omega)) dX5_beside_74 zw_m_X5_66 wYX5_leads wDX5_leads rfl (by omega) pm_o rfl (Nat.le_of_ble_eq_true rfl) (by decide) rfl ?_
    refine zz_iload dX5_beside_77 rfl ?_
    refine zz_icmp_eq (tgt := 101) dX5_beside_79 (by decide) (fun h79 => ?_) (fun h79 => ?_)
    · refine zz_aload_n dX5_beside_101 rfl ?_
      refine zz_aload_n dX5_beside_102 rfl ?_
      refine zz_iload dX5_beside_103 rfl ?_
      refine zz_callV1 (ci := 5) (m_isE _) dX5_beside_105 zw_m_X5_59 wYX5_isElement wDX5_isElement rfl (by omega) pm_o rfl (Nat.le_of_ble_eq_true rfl) (by decide) rfl ?_
      refine zz_if_eq (tgt := 116) dX5_beside_108 (by decide) (fun q => absurd q (by rw [eE]; decide)) (fun _ => ?_)
      refine zz_iload dX5_beside_111 rfl ?_
      refine zz_goto (tgt := 117) dX5_beside_113 (by decide) ?_
      refine zz_callV1 (ci := 5) (m_told _) dX5_beside_117 zw_m_X5_80 wYX5_told wDX5_told rfl (by omega) pm_o rfl (Nat.le_of_ble_eq_true rfl) (by decide) rfl ?_
      refine zz_iret dX5_beside_120 rfl ?_
      exact hQ _ (Or.inr ⟨m, hm, by unfold bsF; rw [zB_i.mp h79]; exact beq_self_eq_true b, fun k h1 h2 => hall k (by omega) h2, rfl⟩)
    · refine zz_iload dX5_beside_82 rfl ?_
      refine zz_iload dX5_beside_84 rfl ?_
      refine zz_iconst (v := 2) dX5_beside_86 (by decide) ?_
      refine zz_icmp_ge (tgt := 94) dX5_beside_87 (by decide) (fun _ => ?_) (fun h => absurd hh h)
      refine zz_iconst (v := (-1)) dX5_beside_94 (by decide) ?_
      refine zz_iadd dX5_beside_95 ?_
      refine zz_istore dX5_beside_96 (by decide) ?_
      refine zz_goto (tgt := 60) dX5_beside_98 (by decide) ?_
      refine ih (i + 1) (by omega) (fun k h1 h2 => ?_)
      by_cases hk : k = m
      · subst hk; unfold bsF; rw [beq_eq_false_iff_ne]; exact fun q => h79 (zB_i.mpr q)
      · exact hall k (by omega) h2
set_option maxHeartbeats 1000000 in
set_option maxRecDepth 20000 in
theorem m_beside_v {r j0 p0 : Nat} (hr : r < 4) (hj0 : j0 < n) (hn : n ≤ 80) (hp : p0 < n) {h : Nat} (hh : h < 4) : zz_C mX5_beside 3 0 0 [.ref 54, .int (nI r), .int (nI j0), .int (nI p0), .int (nI h)] (pm MB MI (nI n) mt T) (fun o τ => τ = pm MB MI (nI n) 0 T ∧ ∃ v, o = .inl (some (.int v)) ∧ (if h < 2 then upS (bsF MB r j0 (h % 2 == 0)) n p0 v else dnS (bsF MB r j0 (h % 2 == 0)) p0 v)) := by
  have e1 : (isR (nI r) && isE n (nI j0)) = true := and_t (isR_t hr) (isE_n hn hj0)
  have e2 := isE_n hn hp
  rcases (show h = 0 ∨ h = 1 ∨ h = 2 ∨ h = 3 by omega) with rfl | rfl | rfl | rfl
  · refine zz_start wPX5_beside rfl rfl (Nat.le_of_ble_eq_true rfl) ?_
    refine zz_aload_n dX5_beside_0 rfl ?_
    refine zz_iload_n dX5_beside_1 rfl ?_
    refine zz_iload_n dX5_beside_2 rfl ?_
    refine zz_callV1 (ci := 5) (m_isRow _ _) dX5_beside_3 zw_m_X5_83 wYX5_isRow wDX5_isRow rfl (by omega) pm_o rfl (Nat.le_of_ble_eq_true rfl) (by decide) rfl ?_
    refine zz_if_eq (tgt := 17) dX5_beside_6 (by decide) (fun q => absurd q (by rw [e1]; decide)) (fun _ => ?_)
    refine zz_aload_n dX5_beside_9 rfl ?_
    refine zz_iload_n dX5_beside_10 rfl ?_
    refine zz_callV1 (ci := 5) (m_isE _) dX5_beside_11 zw_m_X5_59 wYX5_isElement wDX5_isElement rfl (by omega) pm_o rfl (Nat.le_of_ble_eq_true rfl) (by decide) rfl ?_
    refine zz_if_ne (tgt := 23) dX5_beside_14 (by decide) (fun _ => ?_) (fun q => absurd q (by rw [e2]; decide))
    refine zz_iload dX5_beside_23 rfl ?_
    refine zz_iconst (v := 0) dX5_beside_25 (by decide) ?_
    refine zz_iconst (v := 3) dX5_beside_26 (by decide) ?_
    refine zz_callS1 (m_in (nI 0) 0 3) dX5_beside_27 zw_m_X5_51 wYX5_in wDX5_in rfl (Nat.le_of_ble_eq_true rfl) (by decide) rfl ?_
    refine zz_if_ne (tgt := 39) dX5_beside_30 (by decide) (fun _ => ?_) (fun q => absurd q (by rw [show (decide (0 ≤ nI 0) && decide (nI 0 ≤ 3)) = true by decide]; decide))
    refine zz_iload dX5_beside_39 rfl ?_
    refine zz_if_eq (tgt := 50) dX5_beside_41 (by decide) (fun _ => ?_) (fun q => absurd (by decide) q)
    refine zz_iconst (v := 1) dX5_beside_50 (by decide) ?_
    refine zz_goto (tgt := 55) dX5_beside_51 (by decide) ?_
    refine zz_istore dX5_beside_55 (by decide) ?_
    refine zz_iload_n dX5_beside_57 rfl ?_
    refine zz_istore dX5_beside_58 (by decide) ?_
    refine ml_bsU (MB := MB) (MI := MI) (mt := mt) (T := T) hr hj0 hn (hv := nI 0) (by decide) true (fun v hv => ⟨rfl, v, rfl, hv⟩) (n - p0) p0 (by omega) (Nat.le_refl p0) (fun k h1 h2 => absurd h1 (by omega))
  · refine zz_start wPX5_beside rfl rfl (Nat.le_of_ble_eq_true rfl) ?_
    refine zz_aload_n dX5_beside_0 rfl ?_
    refine zz_iload_n dX5_beside_1 rfl ?_
    refine zz_iload_n dX5_beside_2 rfl ?_
    refine zz_callV1 (ci := 5) (m_isRow _ _) dX5_beside_3 zw_m_X5_83 wYX5_isRow wDX5_isRow rfl (by omega) pm_o rfl (Nat.le_of_ble_eq_true rfl) (by decide) rfl ?_
    refine zz_if_eq (tgt := 17) dX5_beside_6 (by decide) (fun q => absurd q (by rw [e1]; decide)) (fun _ => ?_)
    refine zz_aload_n dX5_beside_9 rfl ?_
    refine zz_iload_n dX5_beside_10 rfl ?_
    refine zz_callV1 (ci := 5) (m_isE _) dX5_beside_11 zw_m_X5_59 wYX5_isElement wDX5_isElement rfl (by omega) pm_o rfl (Nat.le_of_ble_eq_true rfl) (by decide) rfl ?_
    refine zz_if_ne (tgt := 23) dX5_beside_14 (by decide) (fun _ => ?_) (fun q => absurd q (by rw [e2]; decide))
    refine zz_iload dX5_beside_23 rfl ?_
    refine zz_iconst (v := 0) dX5_beside_25 (by decide) ?_
    refine zz_iconst (v := 3) dX5_beside_26 (by decide) ?_
    refine zz_callS1 (m_in (nI 1) 0 3) dX5_beside_27 zw_m_X5_51 wYX5_in wDX5_in rfl (Nat.le_of_ble_eq_true rfl) (by decide) rfl ?_
    refine zz_if_ne (tgt := 39) dX5_beside_30 (by decide) (fun _ => ?_) (fun q => absurd q (by rw [show (decide (0 ≤ nI 1) && decide (nI 1 ≤ 3)) = true by decide]; decide))
    refine zz_iload dX5_beside_39 rfl ?_
    refine zz_if_eq (tgt := 50) dX5_beside_41 (by decide) (fun q => absurd q (by decide)) (fun _ => ?_)
    refine zz_iload dX5_beside_44 rfl ?_
    refine zz_iconst (v := 2) dX5_beside_46 (by decide) ?_
    refine zz_icmp_ne (tgt := 54) dX5_beside_47 (by decide) (fun _ => ?_) (fun q => absurd q (by decide))
    refine zz_iconst (v := 0) dX5_beside_54 (by decide) ?_
    refine zz_istore dX5_beside_55 (by decide) ?_
    refine zz_iload_n dX5_beside_57 rfl ?_
    refine zz_istore dX5_beside_58 (by decide) ?_
    refine ml_bsU (MB := MB) (MI := MI) (mt := mt) (T := T) hr hj0 hn (hv := nI 1) (by decide) false (fun v hv => ⟨rfl, v, rfl, hv⟩) (n - p0) p0 (by omega) (Nat.le_refl p0) (fun k h1 h2 => absurd h1 (by omega))
  · refine zz_start wPX5_beside rfl rfl (Nat.le_of_ble_eq_true rfl) ?_
    refine zz_aload_n dX5_beside_0 rfl ?_
    refine zz_iload_n dX5_beside_1 rfl ?_
    refine zz_iload_n dX5_beside_2 rfl ?_
    refine zz_callV1 (ci := 5) (m_isRow _ _) dX5_beside_3 zw_m_X5_83 wYX5_isRow wDX5_isRow rfl (by omega) pm_o rfl (Nat.le_of_ble_eq_true rfl) (by decide) rfl ?_
    refine zz_if_eq (tgt := 17) dX5_beside_6 (by decide) (fun q => absurd q (by rw [e1]; decide)) (fun _ => ?_)
    refine zz_aload_n dX5_beside_9 rfl ?_
    refine zz_iload_n dX5_beside_10 rfl ?_
    refine zz_callV1 (ci := 5) (m_isE _) dX5_beside_11 zw_m_X5_59 wYX5_isElement wDX5_isElement rfl (by omega) pm_o rfl (Nat.le_of_ble_eq_true rfl) (by decide) rfl ?_
    refine zz_if_ne (tgt := 23) dX5_beside_14 (by decide) (fun _ => ?_) (fun q => absurd q (by rw [e2]; decide))
    refine zz_iload dX5_beside_23 rfl ?_
    refine zz_iconst (v := 0) dX5_beside_25 (by decide) ?_
    refine zz_iconst (v := 3) dX5_beside_26 (by decide) ?_
    refine zz_callS1 (m_in (nI 2) 0 3) dX5_beside_27 zw_m_X5_51 wYX5_in wDX5_in rfl (Nat.le_of_ble_eq_true rfl) (by decide) rfl ?_
    refine zz_if_ne (tgt := 39) dX5_beside_30 (by decide) (fun _ => ?_) (fun q => absurd q (by rw [show (decide (0 ≤ nI 2) && decide (nI 2 ≤ 3)) = true by decide]; decide))
    refine zz_iload dX5_beside_39 rfl ?_
    refine zz_if_eq (tgt := 50) dX5_beside_41 (by decide) (fun q => absurd q (by decide)) (fun _ => ?_)
    refine zz_iload dX5_beside_44 rfl ?_
    refine zz_iconst (v := 2) dX5_beside_46 (by decide) ?_
    refine zz_icmp_ne (tgt := 54) dX5_beside_47 (by decide) (fun q => absurd (by decide) q) (fun _ => ?_)
    refine zz_iconst (v := 1) dX5_beside_50 (by decide) ?_
    refine zz_goto (tgt := 55) dX5_beside_51 (by decide) ?_
    refine zz_istore dX5_beside_55 (by decide) ?_
    refine zz_iload_n dX5_beside_57 rfl ?_
    refine zz_istore dX5_beside_58 (by decide) ?_
    have h9 := ml_bsD (MB := MB) (MI := MI) (mt := mt) (T := T) (Q := fun o τ => τ = pm MB MI (nI n) 0 T ∧ ∃ v, o = .inl (some (.int v)) ∧ (if 2 < 2 then upS (bsF MB r j0 (2 % 2 == 0)) n p0 v else dnS (bsF MB r j0 (2 % 2 == 0)) p0 v)) hr hj0 hn hp (hv := nI 2) (by decide) true (fun v hv => ⟨rfl, v, rfl, by rw [if_neg (by decide)]; exact hv⟩) (p0 + 1) 0 (by omega) (fun k h1 h2 => absurd h1 (by omega))
    rw [nI_m1] at h9
    exact h9
  · refine zz_start wPX5_beside rfl rfl (Nat.le_of_ble_eq_true rfl) ?_
    refine zz_aload_n dX5_beside_0 rfl ?_
    refine zz_iload_n dX5_beside_1 rfl ?_
    refine zz_iload_n dX5_beside_2 rfl ?_
    refine zz_callV1 (ci := 5) (m_isRow _ _) dX5_beside_3 zw_m_X5_83 wYX5_isRow wDX5_isRow rfl (by omega) pm_o rfl (Nat.le_of_ble_eq_true rfl) (by decide) rfl ?_
    refine zz_if_eq (tgt := 17) dX5_beside_6 (by decide) (fun q => absurd q (by rw [e1]; decide)) (fun _ => ?_)
    refine zz_aload_n dX5_beside_9 rfl ?_
    refine zz_iload_n dX5_beside_10 rfl ?_
    refine zz_callV1 (ci := 5) (m_isE _) dX5_beside_11 zw_m_X5_59 wYX5_isElement wDX5_isElement rfl (by omega) pm_o rfl (Nat.le_of_ble_eq_true rfl) (by decide) rfl ?_
    refine zz_if_ne (tgt := 23) dX5_beside_14 (by decide) (fun _ => ?_) (fun q => absurd q (by rw [e2]; decide))
    refine zz_iload dX5_beside_23 rfl ?_
    refine zz_iconst (v := 0) dX5_beside_25 (by decide) ?_
    refine zz_iconst (v := 3) dX5_beside_26 (by decide) ?_
    refine zz_callS1 (m_in (nI 3) 0 3) dX5_beside_27 zw_m_X5_51 wYX5_in wDX5_in rfl (Nat.le_of_ble_eq_true rfl) (by decide) rfl ?_
    refine zz_if_ne (tgt := 39) dX5_beside_30 (by decide) (fun _ => ?_) (fun q => absurd q (by rw [show (decide (0 ≤ nI 3) && decide (nI 3 ≤ 3)) = true by decide]; decide))
    refine zz_iload dX5_beside_39 rfl ?_
    refine zz_if_eq (tgt := 50) dX5_beside_41 (by decide) (fun q => absurd q (by decide)) (fun _ => ?_)
    refine zz_iload dX5_beside_44 rfl ?_
    refine zz_iconst (v := 2) dX5_beside_46 (by decide) ?_
    refine zz_icmp_ne (tgt := 54) dX5_beside_47 (by decide) (fun _ => ?_) (fun q => absurd q (by decide))
    refine zz_iconst (v := 0) dX5_beside_54 (by decide) ?_
    refine zz_istore dX5_beside_55 (by decide) ?_
    refine zz_iload_n dX5_beside_57 rfl ?_
    refine zz_istore dX5_beside_58 (by decide) ?_
    have h9 := ml_bsD (MB := MB) (MI := MI) (mt := mt) (T := T) (Q := fun o τ => τ = pm MB MI (nI n) 0 T ∧ ∃ v, o = .inl (some (.int v)) ∧ (if 3 < 2 then upS (bsF MB r j0 (3 % 2 == 0)) n p0 v else dnS (bsF MB r j0 (3 % 2 == 0)) p0 v)) hr hj0 hn hp (hv := nI 3) (by decide) false (fun v hv => ⟨rfl, v, rfl, by rw [if_neg (by decide)]; exact hv⟩) (p0 + 1) 0 (by omega) (fun k h1 h2 => absurd h1 (by omega))
    rw [nI_m1] at h9
    exact h9
set_option maxHeartbeats 1000000 in
set_option maxRecDepth 20000 in
theorem m_beside_x {v w u : Int32} (h : (isR v && isE n w && isE n u) = false) (z : Int32) : zz_C mX5_beside 3 0 0 [.ref 54, .int v, .int w, .int u, .int z] (pm MB MI (nI n) mt T) (fun o τ => o = .inl (some (.int 0)) ∧ τ = pm MB MI (nI n) 1 T) := by
  rcases and_f h with h1 | ⟨h1, h2⟩
  · refine zz_start wPX5_beside rfl rfl (Nat.le_of_ble_eq_true rfl) ?_
    refine zz_aload_n dX5_beside_0 rfl ?_
    refine zz_iload_n dX5_beside_1 rfl ?_
    refine zz_iload_n dX5_beside_2 rfl ?_
    refine zz_callV1 (ci := 5) (m_isRow _ _) dX5_beside_3 zw_m_X5_83 wYX5_isRow wDX5_isRow rfl (by omega) pm_o rfl (Nat.le_of_ble_eq_true rfl) (by decide) rfl ?_
    refine zz_if_eq (tgt := 17) dX5_beside_6 (by decide) (fun _ => ?_) (fun q => absurd (by rw [h1]; rfl) q)
    refine zz_aload_n dX5_beside_17 rfl ?_
    refine zz_iconst (v := 1) dX5_beside_18 (by decide) ?_
    refine zz_callV1 (ci := 5) (m_refuse 1) dX5_beside_19 zw_m_X5_77 wYX5_refuse wDX5_refuse rfl (by omega) pm_o rfl (Nat.le_of_ble_eq_true rfl) (by decide) rfl ?_
    refine zz_iret dX5_beside_22 rfl ?_
    exact ⟨rfl, rfl⟩
  · refine zz_start wPX5_beside rfl rfl (Nat.le_of_ble_eq_true rfl) ?_
    refine zz_aload_n dX5_beside_0 rfl ?_
    refine zz_iload_n dX5_beside_1 rfl ?_
    refine zz_iload_n dX5_beside_2 rfl ?_
    refine zz_callV1 (ci := 5) (m_isRow _ _) dX5_beside_3 zw_m_X5_83 wYX5_isRow wDX5_isRow rfl (by omega) pm_o rfl (Nat.le_of_ble_eq_true rfl) (by decide) rfl ?_
    refine zz_if_eq (tgt := 17) dX5_beside_6 (by decide) (fun q => absurd q (by rw [h1]; decide)) (fun _ => ?_)
    refine zz_aload_n dX5_beside_9 rfl ?_
    refine zz_iload_n dX5_beside_10 rfl ?_
    refine zz_callV1 (ci := 5) (m_isE _) dX5_beside_11 zw_m_X5_59 wYX5_isElement wDX5_isElement rfl (by omega) pm_o rfl (Nat.le_of_ble_eq_true rfl) (by decide) rfl ?_
    refine zz_if_ne (tgt := 23) dX5_beside_14 (by decide) (fun q => absurd (by rw [h2]; rfl) q) (fun _ => ?_)
    refine zz_aload_n dX5_beside_17 rfl ?_
    refine zz_iconst (v := 1) dX5_beside_18 (by decide) ?_
    refine zz_callV1 (ci := 5) (m_refuse 1) dX5_beside_19 zw_m_X5_77 wYX5_refuse wDX5_refuse rfl (by omega) pm_o rfl (Nat.le_of_ble_eq_true rfl) (by decide) rfl ?_
    refine zz_iret dX5_beside_22 rfl ?_
    exact ⟨rfl, rfl⟩
set_option maxHeartbeats 1000000 in
set_option maxRecDepth 20000 in
theorem m_beside_y {r j0 p0 : Nat} (hr : r < 4) (hj0 : j0 < n) (hn : n ≤ 80) (hp : p0 < n) {z : Int32} (h : isR z = false) : zz_C mX5_beside 3 0 0 [.ref 54, .int (nI r), .int (nI j0), .int (nI p0), .int z] (pm MB MI (nI n) mt T) (fun o τ => o = .inl (some (.int 0)) ∧ τ = pm MB MI (nI n) 2 T) := by
  have e1 : (isR (nI r) && isE n (nI j0)) = true := and_t (isR_t hr) (isE_n hn hj0)
  have e2 := isE_n hn hp
  · refine zz_start wPX5_beside rfl rfl (Nat.le_of_ble_eq_true rfl) ?_
    refine zz_aload_n dX5_beside_0 rfl ?_
    refine zz_iload_n dX5_beside_1 rfl ?_
    refine zz_iload_n dX5_beside_2 rfl ?_
    refine zz_callV1 (ci := 5) (m_isRow _ _) dX5_beside_3 zw_m_X5_83 wYX5_isRow wDX5_isRow rfl (by omega) pm_o rfl (Nat.le_of_ble_eq_true rfl) (by decide) rfl ?_
    refine zz_if_eq (tgt := 17) dX5_beside_6 (by decide) (fun q => absurd q (by rw [e1]; decide)) (fun _ => ?_)
    refine zz_aload_n dX5_beside_9 rfl ?_
    refine zz_iload_n dX5_beside_10 rfl ?_
    refine zz_callV1 (ci := 5) (m_isE _) dX5_beside_11 zw_m_X5_59 wYX5_isElement wDX5_isElement rfl (by omega) pm_o rfl (Nat.le_of_ble_eq_true rfl) (by decide) rfl ?_
    refine zz_if_ne (tgt := 23) dX5_beside_14 (by decide) (fun _ => ?_) (fun q => absurd q (by rw [e2]; decide))
    refine zz_iload dX5_beside_23 rfl ?_
    refine zz_iconst (v := 0) dX5_beside_25 (by decide) ?_
    refine zz_iconst (v := 3) dX5_beside_26 (by decide) ?_
    refine zz_callS1 (m_in z 0 3) dX5_beside_27 zw_m_X5_51 wYX5_in wDX5_in rfl (Nat.le_of_ble_eq_true rfl) (by decide) rfl ?_
    refine zz_if_ne (tgt := 39) dX5_beside_30 (by decide) (fun q => absurd (by rw [show (decide (0 ≤ z) && decide (z ≤ 3)) = false from h]; rfl) q) (fun _ => ?_)
    refine zz_aload_n dX5_beside_33 rfl ?_
    refine zz_iconst (v := 2) dX5_beside_34 (by decide) ?_
    refine zz_callV1 (ci := 5) (m_refuse 2) dX5_beside_35 zw_m_X5_77 wYX5_refuse wDX5_refuse rfl (by omega) pm_o rfl (Nat.le_of_ble_eq_true rfl) (by decide) rfl ?_
    refine zz_iret dX5_beside_38 rfl ?_
    exact ⟨rfl, rfl⟩
def wrd (G : Nat → Bool) : Nat → Int64
  | 0 => 0
  | k + 1 => if G k = true then wrd G k ||| ((1 : Int64) <<< ((nI k).toInt64 &&& 63)) else wrd G k
set_option maxHeartbeats 1000000 in
set_option maxRecDepth 20000 in
theorem ml_word {r j0 w : Nat} (hr : r < 4) (hj0 : j0 < n) (hn : n ≤ 80) (hw : w < 2) : ∀ (m i : Nat), i + m = 64 → zz_E mX5_wordOf none 3 0 0 (fun o τ => o = .inl (some (.long (wrd (fun k => decide (64 * w + k < n) && MB 55 (6400 * r + 80 * j0 + (64 * w + k))) 64))) ∧ τ = pm MB MI (nI n) 0 T) 37 [(6, .int (nI i)), (4, .long (wrd (fun k => decide (64 * w + k < n) && MB 55 (6400 * r + 80 * j0 + (64 * w + k))) i)), (0, .ref 54), (1, .int (nI r)), (2, .int (nI j0)), (3, .int (nI w))] [] (pm MB MI (nI n) 0 T) := by
  intro m
  induction m with
  | zero =>
    intro i hi
    have hi : i = 64 := by omega
    subst hi
    refine zz_aload_n dX5_wordOf_37 rfl ?_
    refine zz_get (ci := 5) (j := 3) zz_inX5 rfl zw_f_X5_48 rfl (by decide) dX5_wordOf_38 (by omega) pm_o rfl ?_
    refine zz_if_ne (tgt := 95) dX5_wordOf_41 (by decide) (fun q => absurd rfl q) (fun _ => ?_)
    refine zz_iload dX5_wordOf_44 rfl ?_
    refine zz_bipush (v := 64) dX5_wordOf_46 (by decide) ?_
    refine zz_icmp_ge (tgt := 95) dX5_wordOf_48 (by decide) (fun _ => ?_) (fun h => absurd (nI_le (a := 64) (by omega) (by omega)) h)
    refine zz_lload dX5_wordOf_95 rfl ?_
    refine zz_lret dX5_wordOf_97 rfl ?_
    exact ⟨rfl, rfl⟩
  | succ m ih =>
    intro i hi
    refine zz_aload_n dX5_wordOf_37 rfl ?_
    refine zz_get (ci := 5) (j := 3) zz_inX5 rfl zw_f_X5_48 rfl (by decide) dX5_wordOf_38 (by omega) pm_o rfl ?_
    refine zz_if_ne (tgt := 95) dX5_wordOf_41 (by decide) (fun q => absurd rfl q) (fun _ => ?_)
    refine zz_iload dX5_wordOf_44 rfl ?_
    refine zz_bipush (v := 64) dX5_wordOf_46 (by decide) ?_
    refine zz_icmp_ge (tgt := 95) dX5_wordOf_48 (by decide) (fun h => absurd h (nI_ge (b := 64) (by omega) (by omega))) (fun _ => ?_)
    refine zz_bipush (v := 64) dX5_wordOf_51 (by decide) ?_
    refine zz_iload_n dX5_wordOf_53 rfl ?_
    refine zz_imul dX5_wordOf_54 ?_
    refine zz_iload dX5_wordOf_55 rfl ?_
    refine zz_iadd dX5_wordOf_57 ?_
    refine zz_tope (y := nI (64 * w + i)) (by rw [i64, pk_mul, nI_add]) ?_
    refine zz_istore dX5_wordOf_58 (by decide) ?_
    refine zz_aload_n dX5_wordOf_60 rfl ?_
    refine zz_iload dX5_wordOf_61 rfl ?_
    refine zz_callV1 (ci := 5) (m_isE _) dX5_wordOf_63 zw_m_X5_59 wYX5_isElement wDX5_isElement rfl (by omega) pm_o rfl (Nat.le_of_ble_eq_true rfl) (by decide) rfl ?_
    refine zz_if_eq (tgt := 89) dX5_wordOf_66 (by decide) (fun h66 => ?_) (fun h66 => ?_)
    · refine zz_iinc (v := nI (i + 1)) dX5_wordOf_89 rfl (nI_1 i) (by decide) ?_
      refine zz_goto (tgt := 37) dX5_wordOf_92 (by decide) ?_
      have h9 := ih (i + 1) (by omega)
      have e9 : wrd (fun k => decide (64 * w + k < n) && MB 55 (6400 * r + 80 * j0 + (64 * w + k))) (i + 1) = if ((decide (64 * w + i < n) && MB 55 (6400 * r + 80 * j0 + (64 * w + i))) = true) then wrd (fun k => decide (64 * w + k < n) && MB 55 (6400 * r + 80 * j0 + (64 * w + k))) i ||| ((1 : Int64) <<< ((nI i).toInt64 &&& 63)) else wrd (fun k => decide (64 * w + k < n) && MB 55 (6400 * r + 80 * j0 + (64 * w + k))) i := rfl
      rw [e9] at h9
      first
        | (rw [if_neg (by rw [isE_d (by omega) hn (by omega)] at h66; rw [zB_0.mp h66]; simp)] at h9; refine zz_lvs (fun q hq => ?_) h9; simp only [List.mem_cons, List.not_mem_nil, or_false] at hq; rcases hq with rfl | rfl | rfl | rfl | rfl | rfl <;> simp [zz_up1, zz_up2, Value.category])
        | (rw [if_neg (by rw [zB_0.mp h77]; simp)] at h9; refine zz_lvs (fun q hq => ?_) h9; simp only [List.mem_cons, List.not_mem_nil, or_false] at hq; rcases hq with rfl | rfl | rfl | rfl | rfl | rfl <;> simp [zz_up1, zz_up2, Value.category])
        | (rw [if_pos (by rw [zB_n.mp h77, decide_eq_true hq0]; rfl)] at h9; refine zz_lvs (fun q hq => ?_) h9; simp only [List.mem_cons, List.not_mem_nil, or_false] at hq; rcases hq with rfl | rfl | rfl | rfl | rfl | rfl <;> simp [zz_up1, zz_up2, Value.category])
    · rw [isE_d (by omega) hn (by omega)] at h66
      have hq0 : 64 * w + i < n := of_decide_eq_true (zB_n.mp h66)
      have hq : 64 * w + i < 80 := by omega
      refine zz_aload_n dX5_wordOf_69 rfl ?_
      refine zz_iload_n dX5_wordOf_70 rfl ?_
      refine zz_iload_n dX5_wordOf_71 rfl ?_
      refine zz_iload dX5_wordOf_72 rfl ?_
      refine zz_callV1 (ci := 5) (m_leads hr (show j0 < 80 by omega) (show 64 * w + i < 80 from hq)) dX5_wordOf_74 zw_m_X5_66 wYX5_leads wDX5_leads rfl (by omega) pm_o rfl (Nat.le_of_ble_eq_true rfl) (by decide) rfl ?_
      refine zz_if_eq (tgt := 89) dX5_wordOf_77 (by decide) (fun h77 => ?_) (fun h77 => ?_)
      · refine zz_iinc (v := nI (i + 1)) dX5_wordOf_89 rfl (nI_1 i) (by decide) ?_
        refine zz_goto (tgt := 37) dX5_wordOf_92 (by decide) ?_
        have h9 := ih (i + 1) (by omega)
        have e9 : wrd (fun k => decide (64 * w + k < n) && MB 55 (6400 * r + 80 * j0 + (64 * w + k))) (i + 1) = if ((decide (64 * w + i < n) && MB 55 (6400 * r + 80 * j0 + (64 * w + i))) = true) then wrd (fun k => decide (64 * w + k < n) && MB 55 (6400 * r + 80 * j0 + (64 * w + k))) i ||| ((1 : Int64) <<< ((nI i).toInt64 &&& 63)) else wrd (fun k => decide (64 * w + k < n) && MB 55 (6400 * r + 80 * j0 + (64 * w + k))) i := rfl
        rw [e9] at h9
        first
          | (rw [if_neg (by rw [isE_d (by omega) hn (by omega)] at h66; rw [zB_0.mp h66]; simp)] at h9; refine zz_lvs (fun q hq => ?_) h9; simp only [List.mem_cons, List.not_mem_nil, or_false] at hq; rcases hq with rfl | rfl | rfl | rfl | rfl | rfl <;> simp [zz_up1, zz_up2, Value.category])
          | (rw [if_neg (by rw [zB_0.mp h77]; simp)] at h9; refine zz_lvs (fun q hq => ?_) h9; simp only [List.mem_cons, List.not_mem_nil, or_false] at hq; rcases hq with rfl | rfl | rfl | rfl | rfl | rfl <;> simp [zz_up1, zz_up2, Value.category])
          | (rw [if_pos (by rw [zB_n.mp h77, decide_eq_true hq0]; rfl)] at h9; refine zz_lvs (fun q hq => ?_) h9; simp only [List.mem_cons, List.not_mem_nil, or_false] at hq; rcases hq with rfl | rfl | rfl | rfl | rfl | rfl <;> simp [zz_up1, zz_up2, Value.category])
      · refine zz_lload dX5_wordOf_80 rfl ?_
        refine zz_lconst (v := 1) dX5_wordOf_82 (by decide) ?_
        refine zz_iload dX5_wordOf_83 rfl ?_
        refine zz_lshl dX5_wordOf_85 rfl ?_
        refine zz_lor dX5_wordOf_86 ?_
        refine zz_lstore dX5_wordOf_87 (by decide) ?_
        refine zz_iinc (v := nI (i + 1)) dX5_wordOf_89 rfl (nI_1 i) (by decide) ?_
        refine zz_goto (tgt := 37) dX5_wordOf_92 (by decide) ?_
        have h9 := ih (i + 1) (by omega)
        have e9 : wrd (fun k => decide (64 * w + k < n) && MB 55 (6400 * r + 80 * j0 + (64 * w + k))) (i + 1) = if ((decide (64 * w + i < n) && MB 55 (6400 * r + 80 * j0 + (64 * w + i))) = true) then wrd (fun k => decide (64 * w + k < n) && MB 55 (6400 * r + 80 * j0 + (64 * w + k))) i ||| ((1 : Int64) <<< ((nI i).toInt64 &&& 63)) else wrd (fun k => decide (64 * w + k < n) && MB 55 (6400 * r + 80 * j0 + (64 * w + k))) i := rfl
        rw [e9] at h9
        first
          | (rw [if_neg (by rw [isE_d (by omega) hn (by omega)] at h66; rw [zB_0.mp h66]; simp)] at h9; refine zz_lvs (fun q hq => ?_) h9; simp only [List.mem_cons, List.not_mem_nil, or_false] at hq; rcases hq with rfl | rfl | rfl | rfl | rfl | rfl <;> simp [zz_up1, zz_up2, Value.category])
          | (rw [if_neg (by rw [zB_0.mp h77]; simp)] at h9; refine zz_lvs (fun q hq => ?_) h9; simp only [List.mem_cons, List.not_mem_nil, or_false] at hq; rcases hq with rfl | rfl | rfl | rfl | rfl | rfl <;> simp [zz_up1, zz_up2, Value.category])
          | (rw [if_pos (by rw [zB_n.mp h77, decide_eq_true hq0]; rfl)] at h9; refine zz_lvs (fun q hq => ?_) h9; simp only [List.mem_cons, List.not_mem_nil, or_false] at hq; rcases hq with rfl | rfl | rfl | rfl | rfl | rfl <;> simp [zz_up1, zz_up2, Value.category])
set_option maxHeartbeats 1000000 in
set_option maxRecDepth 20000 in
theorem m_word_v {r j0 w : Nat} (hr : r < 4) (hj0 : j0 < n) (hn : n ≤ 80) (hw : w < 2) : zz_C mX5_wordOf 3 0 0 [.ref 54, .int (nI r), .int (nI j0), .int (nI w)] (pm MB MI (nI n) mt T) (fun o τ => o = .inl (some (.long (wrd (fun k => decide (64 * w + k < n) && MB 55 (6400 * r + 80 * j0 + (64 * w + k))) 64))) ∧ τ = pm MB MI (nI n) 0 T) := by
  have e1 : (isR (nI r) && isE n (nI j0)) = true := and_t (isR_t hr) (isE_n hn hj0)
  have e3 : ∀ h, h < 2 → (decide (0 ≤ nI h) && decide (nI h ≤ 1)) = true := by decide
  · refine zz_start wPX5_wordOf rfl rfl (Nat.le_of_ble_eq_true rfl) ?_
    refine zz_aload_n dX5_wordOf_0 rfl ?_
    refine zz_aload_n dX5_wordOf_1 rfl ?_
    refine zz_iload_n dX5_wordOf_2 rfl ?_
    refine zz_iload_n dX5_wordOf_3 rfl ?_
    refine zz_callV1 (ci := 5) (m_isRow _ _) dX5_wordOf_4 zw_m_X5_83 wYX5_isRow wDX5_isRow rfl (by omega) pm_o rfl (Nat.le_of_ble_eq_true rfl) (by decide) rfl ?_
    refine zz_if_ne (tgt := 14) dX5_wordOf_7 (by decide) (fun _ => ?_) (fun q => absurd q (by rw [e1]; decide))
    refine zz_iload_n dX5_wordOf_14 rfl ?_
    refine zz_iconst (v := 0) dX5_wordOf_15 (by decide) ?_
    refine zz_iconst (v := 1) dX5_wordOf_16 (by decide) ?_
    refine zz_callS1 (m_in (nI w) 0 1) dX5_wordOf_17 zw_m_X5_51 wYX5_in wDX5_in rfl (Nat.le_of_ble_eq_true rfl) (by decide) rfl ?_
    refine zz_if_ne (tgt := 27) dX5_wordOf_20 (by decide) (fun _ => ?_) (fun q => absurd q (by rw [e3 w hw]; decide))
    refine zz_iconst (v := 0) dX5_wordOf_27 (by decide) ?_
    refine zp_mt zw_f_X5_48 dX5_wordOf_28 ?_
    refine zz_lconst (v := 0) dX5_wordOf_31 (by decide) ?_
    refine zz_lstore dX5_wordOf_32 (by decide) ?_
    refine zz_iconst (v := 0) dX5_wordOf_34 (by decide) ?_
    refine zz_istore dX5_wordOf_35 (by decide) ?_
    exact ml_word (MB := MB) (MI := MI) (T := T) hr hj0 hn hw 64 0 (by omega)
def isW (v : Int32) : Bool := decide (0 ≤ v) && decide (v ≤ 1)
set_option maxHeartbeats 1000000 in
set_option maxRecDepth 20000 in
theorem m_word_x {v w : Int32} (h : (isR v && isE n w) = false) (z : Int32) : zz_C mX5_wordOf 3 0 0 [.ref 54, .int v, .int w, .int z] (pm MB MI (nI n) mt T) (fun o τ => o = .inl (some (.long 0)) ∧ τ = pm MB MI (nI n) 1 T) := by
  · refine zz_start wPX5_wordOf rfl rfl (Nat.le_of_ble_eq_true rfl) ?_
    refine zz_aload_n dX5_wordOf_0 rfl ?_
    refine zz_aload_n dX5_wordOf_1 rfl ?_
    refine zz_iload_n dX5_wordOf_2 rfl ?_
    refine zz_iload_n dX5_wordOf_3 rfl ?_
    refine zz_callV1 (ci := 5) (m_isRow _ _) dX5_wordOf_4 zw_m_X5_83 wYX5_isRow wDX5_isRow rfl (by omega) pm_o rfl (Nat.le_of_ble_eq_true rfl) (by decide) rfl ?_
    refine zz_if_ne (tgt := 14) dX5_wordOf_7 (by decide) (fun q => absurd (by rw [h]; rfl) q) (fun _ => ?_)
    refine zz_iconst (v := 1) dX5_wordOf_10 (by decide) ?_
    refine zz_goto (tgt := 28) dX5_wordOf_11 (by decide) ?_
    refine zp_mt zw_f_X5_48 dX5_wordOf_28 ?_
    refine zz_lconst (v := 0) dX5_wordOf_31 (by decide) ?_
    refine zz_lstore dX5_wordOf_32 (by decide) ?_
    refine zz_iconst (v := 0) dX5_wordOf_34 (by decide) ?_
    refine zz_istore dX5_wordOf_35 (by decide) ?_
    refine zz_aload_n dX5_wordOf_37 rfl ?_
    refine zz_get (ci := 5) (j := 3) zz_inX5 rfl zw_f_X5_48 rfl (by decide) dX5_wordOf_38 (by omega) pm_o rfl ?_
    refine zz_if_ne (tgt := 95) dX5_wordOf_41 (by decide) (fun _ => ?_) (fun q => absurd q (by decide))
    refine zz_lload dX5_wordOf_95 rfl ?_
    refine zz_lret dX5_wordOf_97 rfl ?_
    exact ⟨rfl, rfl⟩
set_option maxHeartbeats 1000000 in
set_option maxRecDepth 20000 in
theorem m_word_y {r j0 : Nat} (hr : r < 4) (hj0 : j0 < n) (hn : n ≤ 80) {z : Int32} (h : isW z = false) : zz_C mX5_wordOf 3 0 0 [.ref 54, .int (nI r), .int (nI j0), .int z] (pm MB MI (nI n) mt T) (fun o τ => o = .inl (some (.long 0)) ∧ τ = pm MB MI (nI n) 2 T) := by
  have e1 : (isR (nI r) && isE n (nI j0)) = true := and_t (isR_t hr) (isE_n hn hj0)
  · refine zz_start wPX5_wordOf rfl rfl (Nat.le_of_ble_eq_true rfl) ?_
    refine zz_aload_n dX5_wordOf_0 rfl ?_
    refine zz_aload_n dX5_wordOf_1 rfl ?_
    refine zz_iload_n dX5_wordOf_2 rfl ?_
    refine zz_iload_n dX5_wordOf_3 rfl ?_
    refine zz_callV1 (ci := 5) (m_isRow _ _) dX5_wordOf_4 zw_m_X5_83 wYX5_isRow wDX5_isRow rfl (by omega) pm_o rfl (Nat.le_of_ble_eq_true rfl) (by decide) rfl ?_
    refine zz_if_ne (tgt := 14) dX5_wordOf_7 (by decide) (fun _ => ?_) (fun q => absurd q (by rw [e1]; decide))
    refine zz_iload_n dX5_wordOf_14 rfl ?_
    refine zz_iconst (v := 0) dX5_wordOf_15 (by decide) ?_
    refine zz_iconst (v := 1) dX5_wordOf_16 (by decide) ?_
    refine zz_callS1 (m_in z 0 1) dX5_wordOf_17 zw_m_X5_51 wYX5_in wDX5_in rfl (Nat.le_of_ble_eq_true rfl) (by decide) rfl ?_
    refine zz_if_ne (tgt := 27) dX5_wordOf_20 (by decide) (fun q => absurd (by rw [show (decide (0 ≤ z) && decide (z ≤ 1)) = false from h]; rfl) q) (fun _ => ?_)
    refine zz_iconst (v := 2) dX5_wordOf_23 (by decide) ?_
    refine zz_goto (tgt := 28) dX5_wordOf_24 (by decide) ?_
    refine zp_mt zw_f_X5_48 dX5_wordOf_28 ?_
    refine zz_lconst (v := 0) dX5_wordOf_31 (by decide) ?_
    refine zz_lstore dX5_wordOf_32 (by decide) ?_
    refine zz_iconst (v := 0) dX5_wordOf_34 (by decide) ?_
    refine zz_istore dX5_wordOf_35 (by decide) ?_
    refine zz_aload_n dX5_wordOf_37 rfl ?_
    refine zz_get (ci := 5) (j := 3) zz_inX5 rfl zw_f_X5_48 rfl (by decide) dX5_wordOf_38 (by omega) pm_o rfl ?_
    refine zz_if_ne (tgt := 95) dX5_wordOf_41 (by decide) (fun _ => ?_) (fun q => absurd q (by decide))
    refine zz_lload dX5_wordOf_95 rfl ?_
    refine zz_lret dX5_wordOf_97 rfl ?_
    exact ⟨rfl, rfl⟩
theorem cnt_le (f : Nat → Bool) : ∀ k, cnt f k ≤ k
  | 0 => Nat.le_refl 0
  | k + 1 => by
    have := cnt_le f k
    show (if f k = true then cnt f k + 1 else cnt f k) ≤ k + 1
    split <;> omega
theorem sm_le {g : Nat → Nat} {b : Nat} (h : ∀ k, g k ≤ b) : ∀ k, sm g k ≤ k * b
  | 0 => Nat.zero_le _
  | k + 1 => by
    have := sm_le h k
    have := h k
    show sm g k + g k ≤ _
    rw [Nat.succ_mul]
    omega
def eom (f : Nat → Bool) : Nat → Nat
  | 0 => 0
  | k + 1 => if f k = true then k + 1 else eom f k
set_option maxHeartbeats 1000000 in
set_option maxRecDepth 20000 in
theorem ml_eom (hn : n ≤ 80) : ∀ (m i : Nat), i + m = n → zz_E mX5_endOfMarks none 1 0 0 (fun o τ => o = .inl (some (.int (nI (eom (MB 56) n)))) ∧ τ = pm MB MI (nI n) 0 T) 4 [(2, .int (nI i)), (1, .int (nI (eom (MB 56) i))), (0, .ref 54)] [] (pm MB MI (nI n) mt T) := by
  intro m
  induction m with
  | zero =>
    intro i hi
    have hi : n = i := by omega
    subst hi
    refine zz_iload_n dX5_endOfMarks_4 rfl ?_
    refine zz_aload_n dX5_endOfMarks_5 rfl ?_
    refine zz_get (ci := 5) (j := 2) zz_inX5 rfl zw_f_X5_16 rfl (by decide) dX5_endOfMarks_6 (by omega) pm_o rfl ?_
    refine zz_icmp_ge (tgt := 35) dX5_endOfMarks_9 (by decide) (fun _ => ?_) (fun h => absurd (nI_le (by omega) (by omega)) h)
    refine zz_aload_n dX5_endOfMarks_35 rfl ?_
    refine zz_iload_n dX5_endOfMarks_36 rfl ?_
    refine zz_callV1 (ci := 5) (m_told _) dX5_endOfMarks_37 zw_m_X5_80 wYX5_told wDX5_told rfl (by omega) pm_o rfl (Nat.le_of_ble_eq_true rfl) (by decide) rfl ?_
    refine zz_iret dX5_endOfMarks_40 rfl ?_
    exact ⟨rfl, rfl⟩
  | succ m ih =>
    intro i hi
    refine zz_iload_n dX5_endOfMarks_4 rfl ?_
    refine zz_aload_n dX5_endOfMarks_5 rfl ?_
    refine zz_get (ci := 5) (j := 2) zz_inX5 rfl zw_f_X5_16 rfl (by decide) dX5_endOfMarks_6 (by omega) pm_o rfl ?_
    refine zz_icmp_ge (tgt := 35) dX5_endOfMarks_9 (by decide) (fun h => absurd h (nI_ge (by omega) (by omega))) (fun _ => ?_)
    refine zz_aload_n dX5_endOfMarks_12 rfl ?_
    refine zz_get (ci := 5) (j := 1) zz_inX5 rfl zw_f_X5_13 rfl (by decide) dX5_endOfMarks_13 (by omega) pm_o rfl ?_
    refine zz_iload_n dX5_endOfMarks_16 rfl ?_
    refine zl_mb dX5_endOfMarks_17 (by omega) (by simp only [ml55, ml56, ml57, ml58, ml59, ml60, ml61]; omega) (by simp only [ml55, ml56, ml57, ml58, ml59, ml60, ml61]; omega) ?_
    refine zz_if_eq (tgt := 27) dX5_endOfMarks_18 (by decide) (fun h18 => ?_) (fun h18 => ?_)
    · refine zz_iload_n dX5_endOfMarks_27 rfl ?_
      refine zz_istore_n dX5_endOfMarks_28 (by decide) ?_
      refine zz_iinc (v := nI (i + 1)) dX5_endOfMarks_29 rfl (nI_1 i) (by decide) ?_
      refine zz_goto (tgt := 4) dX5_endOfMarks_32 (by decide) ?_
      have h9 := ih (i + 1) (by omega)
      have e9 : eom (MB 56) (i + 1) = if MB 56 i = true then i + 1 else eom (MB 56) i := rfl
      rw [e9] at h9
      first | (rw [if_neg (by rw [zB_0.mp h18]; decide)] at h9; exact h9) | (rw [if_pos (zB_n.mp h18)] at h9; exact h9)
    · refine zz_iload_n dX5_endOfMarks_21 rfl ?_
      refine zz_iconst (v := 1) dX5_endOfMarks_22 (by decide) ?_
      refine zz_iadd dX5_endOfMarks_23 ?_
      rw [nI_1]
      refine zz_goto (tgt := 28) dX5_endOfMarks_24 (by decide) ?_
      refine zz_istore_n dX5_endOfMarks_28 (by decide) ?_
      refine zz_iinc (v := nI (i + 1)) dX5_endOfMarks_29 rfl (nI_1 i) (by decide) ?_
      refine zz_goto (tgt := 4) dX5_endOfMarks_32 (by decide) ?_
      have h9 := ih (i + 1) (by omega)
      have e9 : eom (MB 56) (i + 1) = if MB 56 i = true then i + 1 else eom (MB 56) i := rfl
      rw [e9] at h9
      first | (rw [if_neg (by rw [zB_0.mp h18]; decide)] at h9; exact h9) | (rw [if_pos (zB_n.mp h18)] at h9; exact h9)
set_option maxHeartbeats 1000000 in
set_option maxRecDepth 20000 in
theorem m_eom (hn : n ≤ 80) : zz_Dt mX5_endOfMarks 1 0 0 [.ref 54] (pm MB MI (nI n) mt T) (.inl (some (.int (nI (eom (MB 56) n))))) (pm MB MI (nI n) 0 T) := by
  refine zz_start wPX5_endOfMarks rfl rfl (Nat.le_of_ble_eq_true rfl) ?_
  refine zz_iconst (v := 0) dX5_endOfMarks_0 (by decide) ?_
  refine zz_istore_n dX5_endOfMarks_1 (by decide) ?_
  refine zz_iconst (v := 0) dX5_endOfMarks_2 (by decide) ?_
  refine zz_istore_n dX5_endOfMarks_3 (by decide) ?_
  exact ml_eom hn n 0 (by omega)
set_option maxHeartbeats 1000000 in
set_option maxRecDepth 20000 in
theorem ml_mka (hn : n ≤ 80) {v : Int32} (hv : ¬ v < 0) {z : Nat} : ∀ (m i : Nat), i + m = n → ff (fun k => MB 56 k && decide (nI (cnt (MB 56) k) = v)) m i = z → zz_E mX5_markedAt none 1 0 0 (fun o τ => o = .inl (some (.int (if z = n then 0 else nI (z)))) ∧ τ = pm MB MI (nI n) (if z = n then 1 else 0) T) 4 [(3, .int (nI i)), (2, .int (v - nI (cnt (MB 56) i))), (0, .ref 54), (1, .int v)] [] (pm MB MI (nI n) mt T) := by
  intro m
  induction m with
  | zero =>
    intro i hi hz
    have hi : n = i := by omega
    subst hi
    have hz2 : z = n := hz.symm
    refine zz_iload_n dX5_markedAt_4 rfl ?_
    refine zz_aload_n dX5_markedAt_5 rfl ?_
    refine zz_get (ci := 5) (j := 2) zz_inX5 rfl zw_f_X5_16 rfl (by decide) dX5_markedAt_6 (by omega) pm_o rfl ?_
    refine zz_icmp_ge (tgt := 44) dX5_markedAt_9 (by decide) (fun _ => ?_) (fun h => absurd (nI_le (by omega) (by omega)) h)
    refine zz_aload_n dX5_markedAt_44 rfl ?_
    refine zz_iconst (v := 1) dX5_markedAt_45 (by decide) ?_
    refine zz_callV1 (ci := 5) (m_refuse 1) dX5_markedAt_46 zw_m_X5_77 wYX5_refuse wDX5_refuse rfl (by omega) pm_o rfl (Nat.le_of_ble_eq_true rfl) (by decide) rfl ?_
    refine zz_iret dX5_markedAt_49 rfl ?_
    exact ⟨by rw [if_pos hz2], by rw [if_pos hz2]⟩
  | succ m ih =>
    intro i hi hz
    refine zz_iload_n dX5_markedAt_4 rfl ?_
    refine zz_aload_n dX5_markedAt_5 rfl ?_
    refine zz_get (ci := 5) (j := 2) zz_inX5 rfl zw_f_X5_16 rfl (by decide) dX5_markedAt_6 (by omega) pm_o rfl ?_
    refine zz_icmp_ge (tgt := 44) dX5_markedAt_9 (by decide) (fun h => absurd h (nI_ge (by omega) (by omega))) (fun _ => ?_)
    refine zz_iload_n dX5_markedAt_12 rfl ?_
    refine zz_if_lt (tgt := 44) dX5_markedAt_13 (by decide) (fun h => absurd h hv) (fun _ => ?_)
    refine zz_aload_n dX5_markedAt_16 rfl ?_
    refine zz_get (ci := 5) (j := 1) zz_inX5 rfl zw_f_X5_13 rfl (by decide) dX5_markedAt_17 (by omega) pm_o rfl ?_
    refine zz_iload_n dX5_markedAt_20 rfl ?_
    refine zl_mb dX5_markedAt_21 (by omega) (by simp only [ml55, ml56, ml57, ml58, ml59, ml60, ml61]; omega) (by simp only [ml55, ml56, ml57, ml58, ml59, ml60, ml61]; omega) ?_
    refine zz_if_eq (tgt := 38) dX5_markedAt_22 (by decide) (fun h22 => ?_) (fun h22 => ?_)
    · refine zz_iinc (v := nI (i + 1)) dX5_markedAt_38 rfl (nI_1 i) (by decide) ?_
      refine zz_goto (tgt := 4) dX5_markedAt_41 (by decide) ?_
      first
        | (have e8 : (fun k => MB 56 k && decide (nI (cnt (MB 56) k) = v)) i = false := (by show (MB 56 i && _) = false; rw [zB_0.mp h22]; rfl); rw [ff_f e8] at hz; have h9 := ih (i + 1) (by omega) hz; rw [show cnt (MB 56) (i + 1) = cnt (MB 56) i from if_neg (by rw [zB_0.mp h22]; decide)] at h9; exact h9)
        | (have e8 : (fun k => MB 56 k && decide (nI (cnt (MB 56) k) = v)) i = false := (by show (MB 56 i && _) = false; rw [decide_eq_false (fun q => h26 (sub_0'.mpr q)), Bool.and_false]); rw [ff_f e8] at hz; have h9 := ih (i + 1) (by omega) hz; rw [show cnt (MB 56) (i + 1) = cnt (MB 56) i + 1 from if_pos (zB_n.mp h22)] at h9; exact h9)
    · refine zz_iload_n dX5_markedAt_25 rfl ?_
      refine zz_if_ne (tgt := 35) dX5_markedAt_26 (by decide) (fun h26 => ?_) (fun h26 => ?_)
      · refine zz_iinc (v := v - nI (cnt (MB 56) i + 1)) dX5_markedAt_35 rfl (by rw [← nI_1]; exact sub_m1 _ _) (by decide) ?_
        refine zz_iinc (v := nI (i + 1)) dX5_markedAt_38 rfl (nI_1 i) (by decide) ?_
        refine zz_goto (tgt := 4) dX5_markedAt_41 (by decide) ?_
        first
          | (have e8 : (fun k => MB 56 k && decide (nI (cnt (MB 56) k) = v)) i = false := (by show (MB 56 i && _) = false; rw [zB_0.mp h22]; rfl); rw [ff_f e8] at hz; have h9 := ih (i + 1) (by omega) hz; rw [show cnt (MB 56) (i + 1) = cnt (MB 56) i from if_neg (by rw [zB_0.mp h22]; decide)] at h9; exact h9)
          | (have e8 : (fun k => MB 56 k && decide (nI (cnt (MB 56) k) = v)) i = false := (by show (MB 56 i && _) = false; rw [decide_eq_false (fun q => h26 (sub_0'.mpr q)), Bool.and_false]); rw [ff_f e8] at hz; have h9 := ih (i + 1) (by omega) hz; rw [show cnt (MB 56) (i + 1) = cnt (MB 56) i + 1 from if_pos (zB_n.mp h22)] at h9; exact h9)
      · refine zz_aload_n dX5_markedAt_29 rfl ?_
        refine zz_iload_n dX5_markedAt_30 rfl ?_
        refine zz_callV1 (ci := 5) (m_told _) dX5_markedAt_31 zw_m_X5_80 wYX5_told wDX5_told rfl (by omega) pm_o rfl (Nat.le_of_ble_eq_true rfl) (by decide) rfl ?_
        refine zz_iret dX5_markedAt_34 rfl ?_
        have e8 : (fun k => MB 56 k && decide (nI (cnt (MB 56) k) = v)) i = true := by show (MB 56 i && _) = true; rw [zB_n.mp h22, decide_eq_true (sub_0'.mp h26)]; rfl
        rw [ff_t e8] at hz
        subst hz
        exact ⟨by rw [if_neg (by omega)], by rw [if_neg (by omega)]⟩
set_option maxHeartbeats 1000000 in
set_option maxRecDepth 20000 in
theorem m_mka (hn : n ≤ 80) (v : Int32) : zz_C mX5_markedAt 1 0 0 [.ref 54, .int v] (pm MB MI (nI n) mt T) (fun o τ => o = .inl (some (.int (if ff (fun k => MB 56 k && decide (nI (cnt (MB 56) k) = v)) n 0 = n then 0 else nI (ff (fun k => MB 56 k && decide (nI (cnt (MB 56) k) = v)) n 0)))) ∧ τ = pm MB MI (nI n) (if ff (fun k => MB 56 k && decide (nI (cnt (MB 56) k) = v)) n 0 = n then 1 else 0) T) := by
  by_cases hv : v < 0
  · have hz2 : ff (fun k => MB 56 k && decide (nI (cnt (MB 56) k) = v)) n 0 = n := by
      have := @ff_at (fun k => MB 56 k && decide (nI (cnt (MB 56) k) = v)) n 0 (fun k _ _ => by
        show (MB 56 k && _) = false
        rw [decide_eq_false, Bool.and_false]
        rintro rfl
        exact nI_pos (Nat.lt_of_le_of_lt (cnt_le _ k) (by omega)) hv)
      rw [this, Nat.zero_add]
    refine zz_start wPX5_markedAt rfl rfl (Nat.le_of_ble_eq_true rfl) ?_
    refine zz_iload_n dX5_markedAt_0 rfl ?_
    refine zz_istore_n dX5_markedAt_1 (by decide) ?_
    refine zz_iconst (v := 0) dX5_markedAt_2 (by decide) ?_
    refine zz_istore_n dX5_markedAt_3 (by decide) ?_
    by_cases hn0 : n = 0
    · have e0 : (0 : Int32) = nI n := by rw [hn0]; rfl
      refine zz_iload_n dX5_markedAt_4 rfl ?_
      refine zz_aload_n dX5_markedAt_5 rfl ?_
      refine zz_get (ci := 5) (j := 2) zz_inX5 rfl zw_f_X5_16 rfl (by decide) dX5_markedAt_6 (by omega) pm_o rfl ?_
      refine zz_icmp_ge (tgt := 44) dX5_markedAt_9 (by decide) (fun _ => ?_) (fun h => absurd (by rw [hn0]; decide) h)
      refine zz_aload_n dX5_markedAt_44 rfl ?_
      refine zz_iconst (v := 1) dX5_markedAt_45 (by decide) ?_
      refine zz_callV1 (ci := 5) (m_refuse 1) dX5_markedAt_46 zw_m_X5_77 wYX5_refuse wDX5_refuse rfl (by omega) pm_o rfl (Nat.le_of_ble_eq_true rfl) (by decide) rfl ?_
      refine zz_iret dX5_markedAt_49 rfl ?_
      exact ⟨by rw [if_pos hz2], by rw [if_pos hz2]⟩
    · refine zz_iload_n dX5_markedAt_4 rfl ?_
      refine zz_aload_n dX5_markedAt_5 rfl ?_
      refine zz_get (ci := 5) (j := 2) zz_inX5 rfl zw_f_X5_16 rfl (by decide) dX5_markedAt_6 (by omega) pm_o rfl ?_
      refine zz_icmp_ge (tgt := 44) dX5_markedAt_9 (by decide) (fun h => absurd h (nI_ge (a := 0) (by omega) (by omega))) (fun _ => ?_)
      refine zz_iload_n dX5_markedAt_12 rfl ?_
      refine zz_if_lt (tgt := 44) dX5_markedAt_13 (by decide) (fun _ => ?_) (fun h => absurd hv h)
      refine zz_aload_n dX5_markedAt_44 rfl ?_
      refine zz_iconst (v := 1) dX5_markedAt_45 (by decide) ?_
      refine zz_callV1 (ci := 5) (m_refuse 1) dX5_markedAt_46 zw_m_X5_77 wYX5_refuse wDX5_refuse rfl (by omega) pm_o rfl (Nat.le_of_ble_eq_true rfl) (by decide) rfl ?_
      refine zz_iret dX5_markedAt_49 rfl ?_
      exact ⟨by rw [if_pos hz2], by rw [if_pos hz2]⟩
  · refine zz_start wPX5_markedAt rfl rfl (Nat.le_of_ble_eq_true rfl) ?_
    refine zz_iload_n dX5_markedAt_0 rfl ?_
    refine zz_istore_n dX5_markedAt_1 (by decide) ?_
    refine zz_iconst (v := 0) dX5_markedAt_2 (by decide) ?_
    refine zz_istore_n dX5_markedAt_3 (by decide) ?_
    have h9 := ml_mka (MB := MB) (MI := MI) (mt := mt) (T := T) hn hv (z := ff (fun k => MB 56 k && decide (nI (cnt (MB 56) k) = v)) n 0) n 0 (by omega) rfl
    have e9 : v - nI (cnt (MB 56) 0) = v := by show v - 0 = v; exact Int32.sub_zero v
    rw [e9] at h9
    exact h9
set_option maxHeartbeats 1000000 in
set_option maxRecDepth 20000 in
theorem m_mean_v {r : Nat} (hr : r < 4) (hn : n ≤ 80) (h1 : 1 ≤ n) : zz_C mX5_meanRow 4 0 0 [.ref 54, .int (nI r)] (pm MB MI (nI n) mt T) (fun o τ => o = .inl (some (.double (FP.ddiv (FP.i2d (nI (sm (fun j => cnt (fun k => MB 55 (6400 * r + 80 * j + k)) n) n))) (FP.i2d (nI n))))) ∧ τ = pm MB MI (nI n) 0 T) := by
  have e1 := isR_t hr
  have hP : sm (fun j => cnt (fun k => MB 55 (6400 * r + 80 * j + k)) n) n < 6401 := by
    have h1 := sm_le (g := fun j => cnt (fun k => MB 55 (6400 * r + 80 * j + k)) n) (b := n) (fun k => cnt_le _ n) n
    have h2 : n * n ≤ 80 * 80 := Nat.mul_le_mul hn hn
    omega
  · refine zz_start wPX5_meanRow rfl rfl (Nat.le_of_ble_eq_true rfl) ?_
    refine zz_aload_n dX5_meanRow_0 rfl ?_
    refine zz_iload_n dX5_meanRow_1 rfl ?_
    refine zz_callS1 (m_isR _) dX5_meanRow_2 zw_m_X5_55 wYX5_isRelation wDX5_isRelation rfl (Nat.le_of_ble_eq_true rfl) (by decide) rfl ?_
    refine zz_if_eq (tgt := 12) dX5_meanRow_5 (by decide) (fun q => absurd q (by rw [e1]; decide)) (fun _ => ?_)
    refine zz_iconst (v := 0) dX5_meanRow_8 (by decide) ?_
    refine zz_goto (tgt := 13) dX5_meanRow_9 (by decide) ?_
    refine zp_mt zw_f_X5_48 dX5_meanRow_13 ?_
    refine zz_aload_n dX5_meanRow_16 rfl ?_
    refine zz_get (ci := 5) (j := 3) zz_inX5 rfl zw_f_X5_48 rfl (by decide) dX5_meanRow_17 (by omega) pm_o rfl ?_
    refine zz_if_eq (tgt := 27) dX5_meanRow_20 (by decide) (fun _ => ?_) (fun q => absurd rfl q)
    refine zz_aload_n dX5_meanRow_27 rfl ?_
    refine zz_iload_n dX5_meanRow_28 rfl ?_
    refine zz_callV1 (ci := 5) (m_pairs hr hn) dX5_meanRow_29 zw_m_X5_73 wYX5_pairs wDX5_pairs rfl (by omega) pm_o rfl (Nat.le_of_ble_eq_true rfl) (by decide) rfl ?_
    refine zz_i2d dX5_meanRow_32 ?_
    refine zz_aload_n dX5_meanRow_33 rfl ?_
    refine zz_get (ci := 5) (j := 2) zz_inX5 rfl zw_f_X5_16 rfl (by decide) dX5_meanRow_34 (by omega) pm_o rfl ?_
    refine zz_i2d dX5_meanRow_37 ?_
    refine zz_ddiv dX5_meanRow_38 (zf_ddiv hP (by omega) h1) ?_
    refine zz_dret dX5_meanRow_39 rfl ?_
    exact ⟨rfl, rfl⟩
set_option maxHeartbeats 1000000 in
set_option maxRecDepth 20000 in
theorem m_mean_x {v : Int32} (h : isR v = false) : zz_C mX5_meanRow 4 0 0 [.ref 54, .int v] (pm MB MI (nI n) mt T) (fun o τ => o = .inl (some (.double FP.dconst0)) ∧ τ = pm MB MI (nI n) 1 T) := by
  · refine zz_start wPX5_meanRow rfl rfl (Nat.le_of_ble_eq_true rfl) ?_
    refine zz_aload_n dX5_meanRow_0 rfl ?_
    refine zz_iload_n dX5_meanRow_1 rfl ?_
    refine zz_callS1 (m_isR _) dX5_meanRow_2 zw_m_X5_55 wYX5_isRelation wDX5_isRelation rfl (Nat.le_of_ble_eq_true rfl) (by decide) rfl ?_
    refine zz_if_eq (tgt := 12) dX5_meanRow_5 (by decide) (fun _ => ?_) (fun q => absurd (by rw [h]; rfl) q)
    refine zz_iconst (v := 1) dX5_meanRow_12 (by decide) ?_
    refine zp_mt zw_f_X5_48 dX5_meanRow_13 ?_
    refine zz_aload_n dX5_meanRow_16 rfl ?_
    refine zz_get (ci := 5) (j := 3) zz_inX5 rfl zw_f_X5_48 rfl (by decide) dX5_meanRow_17 (by omega) pm_o rfl ?_
    refine zz_if_eq (tgt := 27) dX5_meanRow_20 (by decide) (fun q => absurd q (by decide)) (fun _ => ?_)
    refine zz_dconst0 dX5_meanRow_23 ?_
    refine zz_goto (tgt := 39) dX5_meanRow_24 (by decide) ?_
    refine zz_dret dX5_meanRow_39 rfl ?_
    exact ⟨rfl, rfl⟩
set_option maxHeartbeats 1000000 in
set_option maxRecDepth 20000 in
theorem m_share_v {r : Nat} (hr : r < 4) (hn : n ≤ 80) (h1 : 1 ≤ n) : zz_C mX5_share 4 0 0 [.ref 54, .int (nI r)] (pm MB MI (nI n) mt T) (fun o τ => o = .inl (some (.float (FP.fdiv (FP.i2f (nI (sm (fun j => cnt (fun k => MB 55 (6400 * r + 80 * j + k)) n) n))) (FP.i2f (nI (n * n)))))) ∧ τ = pm MB MI (nI n) 0 T) := by
  have e1 := isR_t hr
  have hP : sm (fun j => cnt (fun k => MB 55 (6400 * r + 80 * j + k)) n) n < 6401 := by
    have h1 := sm_le (g := fun j => cnt (fun k => MB 55 (6400 * r + 80 * j + k)) n) (b := n) (fun k => cnt_le _ n) n
    have h2 : n * n ≤ 80 * 80 := Nat.mul_le_mul hn hn
    omega
  have h2 : n * n ≤ 80 * 80 := Nat.mul_le_mul hn hn
  have h3 : 1 * 1 ≤ n * n := Nat.mul_le_mul h1 h1
  · refine zz_start wPX5_share rfl rfl (Nat.le_of_ble_eq_true rfl) ?_
    refine zz_aload_n dX5_share_0 rfl ?_
    refine zz_iload_n dX5_share_1 rfl ?_
    refine zz_callS1 (m_isR _) dX5_share_2 zw_m_X5_55 wYX5_isRelation wDX5_isRelation rfl (Nat.le_of_ble_eq_true rfl) (by decide) rfl ?_
    refine zz_if_eq (tgt := 12) dX5_share_5 (by decide) (fun q => absurd q (by rw [e1]; decide)) (fun _ => ?_)
    refine zz_iconst (v := 0) dX5_share_8 (by decide) ?_
    refine zz_goto (tgt := 13) dX5_share_9 (by decide) ?_
    refine zp_mt zw_f_X5_48 dX5_share_13 ?_
    refine zz_aload_n dX5_share_16 rfl ?_
    refine zz_get (ci := 5) (j := 3) zz_inX5 rfl zw_f_X5_48 rfl (by decide) dX5_share_17 (by omega) pm_o rfl ?_
    refine zz_if_eq (tgt := 27) dX5_share_20 (by decide) (fun _ => ?_) (fun q => absurd rfl q)
    refine zz_aload_n dX5_share_27 rfl ?_
    refine zz_iload_n dX5_share_28 rfl ?_
    refine zz_callV1 (ci := 5) (m_pairs hr hn) dX5_share_29 zw_m_X5_73 wYX5_pairs wDX5_pairs rfl (by omega) pm_o rfl (Nat.le_of_ble_eq_true rfl) (by decide) rfl ?_
    refine zz_i2f dX5_share_32 ?_
    refine zz_aload_n dX5_share_33 rfl ?_
    refine zz_get (ci := 5) (j := 2) zz_inX5 rfl zw_f_X5_16 rfl (by decide) dX5_share_34 (by omega) pm_o rfl ?_
    refine zz_aload_n dX5_share_37 rfl ?_
    refine zz_get (ci := 5) (j := 2) zz_inX5 rfl zw_f_X5_16 rfl (by decide) dX5_share_38 (by omega) pm_o rfl ?_
    refine zz_imul dX5_share_41 ?_
    rw [pk_mul]
    refine zz_i2f dX5_share_42 ?_
    refine zz_fdiv dX5_share_43 (zf_fdiv hP (by omega) (by omega)) ?_
    refine zz_fret dX5_share_44 rfl ?_
    exact ⟨rfl, rfl⟩
set_option maxHeartbeats 1000000 in
set_option maxRecDepth 20000 in
theorem m_share_x {v : Int32} (h : isR v = false) : zz_C mX5_share 4 0 0 [.ref 54, .int v] (pm MB MI (nI n) mt T) (fun o τ => o = .inl (some (.float FP.fconst0)) ∧ τ = pm MB MI (nI n) 1 T) := by
  · refine zz_start wPX5_share rfl rfl (Nat.le_of_ble_eq_true rfl) ?_
    refine zz_aload_n dX5_share_0 rfl ?_
    refine zz_iload_n dX5_share_1 rfl ?_
    refine zz_callS1 (m_isR _) dX5_share_2 zw_m_X5_55 wYX5_isRelation wDX5_isRelation rfl (Nat.le_of_ble_eq_true rfl) (by decide) rfl ?_
    refine zz_if_eq (tgt := 12) dX5_share_5 (by decide) (fun _ => ?_) (fun q => absurd (by rw [h]; rfl) q)
    refine zz_iconst (v := 1) dX5_share_12 (by decide) ?_
    refine zp_mt zw_f_X5_48 dX5_share_13 ?_
    refine zz_aload_n dX5_share_16 rfl ?_
    refine zz_get (ci := 5) (j := 3) zz_inX5 rfl zw_f_X5_48 rfl (by decide) dX5_share_17 (by omega) pm_o rfl ?_
    refine zz_if_eq (tgt := 27) dX5_share_20 (by decide) (fun q => absurd q (by decide)) (fun _ => ?_)
    refine zz_fconst0 dX5_share_23 ?_
    refine zz_goto (tgt := 44) dX5_share_24 (by decide) ?_
    refine zz_fret dX5_share_44 rfl ?_
    exact ⟨rfl, rfl⟩
end ZZM7
