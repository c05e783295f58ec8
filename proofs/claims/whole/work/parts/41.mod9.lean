section ZZM9
variable {MB : Nat → Nat → Bool} {MI : Nat → Nat → Int32} {n : Nat} {mt : Int32} {T : zz_St}
abbrev rl (MB : Nat → Nat → Bool) (r : Nat) : Nat → Nat → Bool := fun i k => MB 55 (6400 * r + 80 * i + k)
/-- how the reference's arrays hold a going by breadth -/
def bfM (MI : Nat → Nat → Int32) (n : Nat) (D Qn : Nat → Nat) (e : Nat) : Prop := (∀ k, k < n → MI 63 k = fr (D k)) ∧ ∀ j, j < e → MI 62 j = nI (Qn j)
theorem bfM_f {MI : Nat → Nat → Int32} {n : Nat} {D Qn : Nat → Nat} {e x d : Nat} (h : bfM MI n D Qn e) (hd : d ≠ 0) : bfM (va_up (va_up MI 63 (va_up (MI 63) x (nI d))) 62 (va_up (MI 62) e (nI x))) n (va_up D x d) (va_up Qn e x) (e + 1) := by
  refine ⟨fun k hk => ?_, fun j hj => ?_⟩
  · rw [up_ne _ _ (show (63 : Nat) ≠ 62 by decide), up_at]
    by_cases e1 : k = x
    · subst e1; rw [up_at, up_at]; unfold fr; rw [if_neg hd]
    · rw [up_ne _ _ e1, up_ne _ _ e1]; exact h.1 k hk
  · rw [up_at]
    by_cases e1 : j = e
    · subst e1; rw [up_at, up_at]
    · rw [up_ne _ _ e1, up_ne _ _ e1]; exact h.2 j (by omega)
set_option maxHeartbeats 1000000 in
set_option maxRecDepth 20000 in
theorem ml_wkN {Q : zz_Q} {r i0 : Nat} (hr : r < 4) (hi0 : i0 < n) (hn : n ≤ 80) {a s : Nat} (K : ∀ (MI : Nat → Nat → Int32) (D Qn : Nat → Nat) (e : Nat), bfO (rl MB r) n i0 D Qn e (a + 1) → bfM MI n D Qn e → zz_E mX5_walks none 2 0 0 Q 163 [(4, .int (nI e)), (3, .int (nI (a + 1))), (0, .ref 54), (1, .int (nI r)), (2, .int (nI i0))] [] (pm MB MI (nI n) mt T)) : ∀ (m i : Nat), i + m = n → ∀ (MI : Nat → Nat → Int32) (D Qn : Nat → Nat) (e : Nat), bfN (rl MB r) n i0 D Qn e a s i → bfM MI n D Qn e → zz_E mX5_walks none 2 0 0 (Q) 97 [(6, .int (nI i)), (5, .int (nI s)), (4, .int (nI e)), (3, .int (nI (a + 1))), (0, .ref 54), (1, .int (nI r)), (2, .int (nI i0))] [] (pm MB MI (nI n) mt T) := by
  intro m
  induction m with
  | zero =>
    intro i hi MI D Qn e hN hM
    have hi : n = i := by omega
    subst hi
    refine zz_iload dX5_walks_97 rfl ?_
    refine zz_aload_n dX5_walks_99 rfl ?_
    refine zz_get (ci := 5) (j := 2) zz_inX5 rfl zw_f_X5_16 rfl (by decide) dX5_walks_100 (by omega) pm_o rfl ?_
    refine zz_icmp_ge (tgt := 163) dX5_walks_103 (by decide) (fun _ => ?_) (fun h => absurd (nI_le (by omega) (by omega)) h)
    refine zz_lvs (lv2 := [(4, .int (nI e)), (3, .int (nI (a + 1))), (0, .ref 54), (1, .int (nI r)), (2, .int (nI i0))]) (fun q hq => by simp only [List.mem_cons, List.not_mem_nil, or_false] at hq; rcases hq with rfl | rfl | rfl | rfl | rfl <;> simp [zz_up1, zz_up2, Value.category]) ?_
    exact K MI D Qn e (bfN_n hN) hM
  | succ m ih =>
    intro i hi MI D Qn e hN hM
    have hin : i < n := by omega
    have hs : s < n := hN.2.2.2.2.1.2.2.1
    have hs0 : D s ≠ 0 := hN.2.2.2.2.1.2.2.2
    have hfi := hM.1 i hin
    have hfs : MI 63 s = nI (D s) := by rw [hM.1 s hs]; unfold fr; rw [if_neg hs0]
    have hDi : D i < 1000 := by
        by_cases q : D i = 0
        · omega
        · obtain ⟨⟨j, hj, hq⟩, _⟩ := hN.1.2.2.1 i hin q
          have q1 := (hN.1.2.1 j hj).2.2
          have q2 := bfI_le hN.1.1
          rw [hq] at q1
          omega
    refine zz_iload dX5_walks_97 rfl ?_
    refine zz_aload_n dX5_walks_99 rfl ?_
    refine zz_get (ci := 5) (j := 2) zz_inX5 rfl zw_f_X5_16 rfl (by decide) dX5_walks_100 (by omega) pm_o rfl ?_
    refine zz_icmp_ge (tgt := 163) dX5_walks_103 (by decide) (fun h => absurd h (nI_ge (by omega) (by omega))) (fun _ => ?_)
    refine zz_aload_n dX5_walks_106 rfl ?_
    refine zz_get (ci := 5) (j := 10) zz_inX5 rfl zw_f_X5_39 rfl (by decide) dX5_walks_107 (by omega) pm_o rfl ?_
    refine zz_iload dX5_walks_110 rfl ?_
    refine zl_mi dX5_walks_112 (by omega) (by omega) ?_
    refine zz_iconst (v := (-1)) dX5_walks_113 (by decide) ?_
    refine zz_icmp_ne (tgt := 157) dX5_walks_114 (by decide) (fun h114 => ?_) (fun h114 => ?_)
    · refine zz_iinc (v := nI (i + 1)) dX5_walks_157 rfl (nI_1 i) (by decide) ?_
      refine zz_goto (tgt := 97) dX5_walks_160 (by decide) ?_
      first
        | exact ih (i + 1) (by omega) MI D Qn e (bfN_o hN hin (Or.inl (fun q => h114 (hfi.trans ((fr_0 hDi).mpr q))))) hM
        | exact ih (i + 1) (by omega) MI D Qn e (bfN_o hN hin (Or.inr (zB_0.mp h126))) hM
        | (have h9 := ih (i + 1) (by omega) _ _ _ _ (bfN_w hN hin hD0 (zB_n.mp h126)) (bfM_f hM (Nat.succ_ne_zero (D s))); simp only [up_ne _ _ (show (62 : Nat) ≠ 63 by decide)]; refine zz_lvs (fun q hq => ?_) h9; simp only [List.mem_cons, List.not_mem_nil, or_false] at hq; rcases hq with rfl | rfl | rfl | rfl | rfl | rfl | rfl <;> simp [zz_up1, zz_up2, Value.category])
    · refine zz_aload_n dX5_walks_117 rfl ?_
      refine zz_iload_n dX5_walks_118 rfl ?_
      refine zz_iload dX5_walks_119 rfl ?_
      refine zz_iload dX5_walks_121 rfl ?_
      refine zz_callV1 (ci := 5) (m_leads hr (show s < 80 by omega) (show i < 80 by omega)) dX5_walks_123 zw_m_X5_66 wYX5_leads wDX5_leads rfl (by omega) pm_o rfl (Nat.le_of_ble_eq_true rfl) (by decide) rfl ?_
      refine zz_if_eq (tgt := 157) dX5_walks_126 (by decide) (fun h126 => ?_) (fun h126 => ?_)
      · refine zz_iinc (v := nI (i + 1)) dX5_walks_157 rfl (nI_1 i) (by decide) ?_
        refine zz_goto (tgt := 97) dX5_walks_160 (by decide) ?_
        first
          | exact ih (i + 1) (by omega) MI D Qn e (bfN_o hN hin (Or.inl (fun q => h114 (hfi.trans ((fr_0 hDi).mpr q))))) hM
          | exact ih (i + 1) (by omega) MI D Qn e (bfN_o hN hin (Or.inr (zB_0.mp h126))) hM
          | (have h9 := ih (i + 1) (by omega) _ _ _ _ (bfN_w hN hin hD0 (zB_n.mp h126)) (bfM_f hM (Nat.succ_ne_zero (D s))); simp only [up_ne _ _ (show (62 : Nat) ≠ 63 by decide)]; refine zz_lvs (fun q hq => ?_) h9; simp only [List.mem_cons, List.not_mem_nil, or_false] at hq; rcases hq with rfl | rfl | rfl | rfl | rfl | rfl | rfl <;> simp [zz_up1, zz_up2, Value.category])
      · have hD0 : D i = 0 := (fr_0 hDi).mp (hfi.symm.trans h114)
        have he80 : e < n := bfI_lt hN.1.1 hin hD0
        refine zz_aload_n dX5_walks_129 rfl ?_
        refine zz_get (ci := 5) (j := 10) zz_inX5 rfl zw_f_X5_39 rfl (by decide) dX5_walks_130 (by omega) pm_o rfl ?_
        refine zz_iload dX5_walks_133 rfl ?_
        refine zz_aload_n dX5_walks_135 rfl ?_
        refine zz_get (ci := 5) (j := 10) zz_inX5 rfl zw_f_X5_39 rfl (by decide) dX5_walks_136 (by omega) pm_o rfl ?_
        refine zz_iload dX5_walks_139 rfl ?_
        refine zl_mi dX5_walks_141 (by omega) (by omega) ?_
        refine zz_iconst (v := 1) dX5_walks_142 (by decide) ?_
        refine zz_iadd dX5_walks_143 ?_
        rw [hfs, nI_1]
        refine zs_mi dX5_walks_144 (by omega) (by omega) ?_
        refine zz_aload_n dX5_walks_145 rfl ?_
        refine zz_get (ci := 5) (j := 9) zz_inX5 rfl zw_f_X5_35 rfl (by decide) dX5_walks_146 (by omega) pm_o rfl ?_
        refine zz_iload dX5_walks_149 rfl ?_
        refine zz_iload dX5_walks_151 rfl ?_
        refine zs_mi dX5_walks_153 (by omega) (by omega) ?_
        refine zz_iinc (v := nI (e + 1)) dX5_walks_154 rfl (nI_1 e) (by decide) ?_
        refine zz_iinc (v := nI (i + 1)) dX5_walks_157 rfl (nI_1 i) (by decide) ?_
        refine zz_goto (tgt := 97) dX5_walks_160 (by decide) ?_
        first
          | exact ih (i + 1) (by omega) MI D Qn e (bfN_o hN hin (Or.inl (fun q => h114 (hfi.trans ((fr_0 hDi).mpr q))))) hM
          | exact ih (i + 1) (by omega) MI D Qn e (bfN_o hN hin (Or.inr (zB_0.mp h126))) hM
          | (have h9 := ih (i + 1) (by omega) _ _ _ _ (bfN_w hN hin hD0 (zB_n.mp h126)) (bfM_f hM (Nat.succ_ne_zero (D s))); simp only [up_ne _ _ (show (62 : Nat) ≠ 63 by decide)]; refine zz_lvs (fun q hq => ?_) h9; simp only [List.mem_cons, List.not_mem_nil, or_false] at hq; rcases hq with rfl | rfl | rfl | rfl | rfl | rfl | rfl <;> simp [zz_up1, zz_up2, Value.category])
set_option maxHeartbeats 1000000 in
set_option maxRecDepth 20000 in
theorem ml_wkO {Q : zz_Q} {r i0 : Nat} (hr : r < 4) (hi0 : i0 < n) (hn : n ≤ 80) (hQ : ∀ (MI : Nat → Nat → Int32), (∀ k, k < n → (MI 63 k = -1 ∧ ¬ rch (rl MB r) n i0 k) ∨ ∃ d, d ≤ n ∧ MI 63 k = nI d ∧ dst (rl MB r) n i0 k d) → Q (.inl none) (pm MB MI (nI n) mt T)) : ∀ (m i : Nat), i + m = n → ∀ (MI : Nat → Nat → Int32) (D Qn : Nat → Nat) (e : Nat), bfO (rl MB r) n i0 D Qn e i → bfM MI n D Qn e → zz_E mX5_walks none 2 0 0 (Q) 77 [(4, .int (nI e)), (3, .int (nI i)), (0, .ref 54), (1, .int (nI r)), (2, .int (nI i0))] [] (pm MB MI (nI n) mt T) := by
  intro m
  induction m with
  | zero =>
    intro i hi MI D Qn e hO hM
    have hi : n = i := by omega
    subst hi
    have he := bfI_le hO.1.1
    refine zz_iload_n dX5_walks_77 rfl ?_
    refine zz_iload dX5_walks_78 rfl ?_
    refine zz_icmp_ge (tgt := 166) dX5_walks_80 (by decide) (fun _ => ?_) (fun h => absurd (nI_le he (by omega)) h)
    refine zz_vret dX5_walks_166 rfl ?_
    refine hQ MI (fun k hk => ?_)
    rcases bfO_e hi0 hO he k hk with ⟨q1, q2⟩ | ⟨q1, q2, q3⟩
    · exact Or.inl ⟨by rw [hM.1 k hk, q1]; rfl, q2⟩
    · exact Or.inr ⟨D k, q2, by rw [hM.1 k hk]; unfold fr; rw [if_neg q1], q3⟩
  | succ m ih =>
    intro i hi MI D Qn e hO hM
    have hin : i < n := by omega
    have he80 := bfI_le hO.1.1
    refine zz_iload_n dX5_walks_77 rfl ?_
    refine zz_iload dX5_walks_78 rfl ?_
    refine zz_icmp_ge (tgt := 166) dX5_walks_80 (by decide) (fun h80 => ?_) (fun h80 => ?_)
    · refine zz_vret dX5_walks_166 rfl ?_
      have he : e ≤ i := (nI_leI (by omega) (by omega)).mp h80
      refine hQ MI (fun k hk => ?_)
      rcases bfO_e hi0 hO he k hk with ⟨q1, q2⟩ | ⟨q1, q2, q3⟩
      · exact Or.inl ⟨by rw [hM.1 k hk, q1]; rfl, q2⟩
      · exact Or.inr ⟨D k, q2, by rw [hM.1 k hk]; unfold fr; rw [if_neg q1], q3⟩
    · have hae : i < e := by
        refine Nat.lt_of_not_le (fun q => h80 (nI_le q (by omega)))
      refine zz_aload_n dX5_walks_83 rfl ?_
      refine zz_get (ci := 5) (j := 9) zz_inX5 rfl zw_f_X5_35 rfl (by decide) dX5_walks_84 (by omega) pm_o rfl ?_
      refine zz_iload_n dX5_walks_87 rfl ?_
      refine zl_mi dX5_walks_88 (by omega) (by omega) ?_
      rw [hM.2 i hae]
      refine zz_istore dX5_walks_89 (by decide) ?_
      refine zz_iinc (v := nI (i + 1)) dX5_walks_91 rfl (nI_1 i) (by decide) ?_
      refine zz_iconst (v := 0) dX5_walks_94 (by decide) ?_
      refine zz_istore dX5_walks_95 (by decide) ?_
      refine zz_lvs (lv2 := [(6, .int 0), (5, .int (nI (Qn i))), (4, .int (nI e)), (3, .int (nI (i + 1))), (0, .ref 54), (1, .int (nI r)), (2, .int (nI i0))]) (fun q hq => by simp only [List.mem_cons, List.not_mem_nil, or_false] at hq; rcases hq with rfl | rfl | rfl | rfl | rfl | rfl | rfl <;> simp [zz_up1, zz_up2, Value.category, f4_3]) ?_
      refine ml_wkN hr hi0 hn (a := i) (s := Qn i) (fun MI D Qn e hO hM => ?_) n 0 (by omega) MI D Qn e (bfN_0 hO hae) hM
      refine zz_goto (tgt := 77) dX5_walks_163 (by decide) ?_
      exact ih (i + 1) (by omega) MI D Qn e hO hM
set_option maxHeartbeats 1000000 in
set_option maxRecDepth 20000 in
theorem ml_wkP {Q : zz_Q} {r i0 : Nat} (hr : r < 4) (hi0 : i0 < n) (hn : n ≤ 80) (hQ : ∀ (MI : Nat → Nat → Int32), (∀ k, k < n → (MI 63 k = -1 ∧ ¬ rch (rl MB r) n i0 k) ∨ ∃ d, d ≤ n ∧ MI 63 k = nI d ∧ dst (rl MB r) n i0 k d) → Q (.inl none) (pm MB MI (nI n) mt T)) : ∀ (m i : Nat), i + m = n → ∀ (MI : Nat → Nat → Int32) (D Qn : Nat → Nat) (e : Nat), bfP (rl MB r) n i0 D Qn e i → bfM MI n D Qn e → zz_E mX5_walks none 2 0 0 (Q) 31 [(5, .int (nI i)), (4, .int (nI e)), (3, .int 0), (0, .ref 54), (1, .int (nI r)), (2, .int (nI i0))] [] (pm MB MI (nI n) mt T) := by
  intro m
  induction m with
  | zero =>
    intro i hi MI D Qn e hP hM
    have hi : n = i := by omega
    subst hi
    refine zz_iload dX5_walks_31 rfl ?_
    refine zz_aload_n dX5_walks_33 rfl ?_
    refine zz_get (ci := 5) (j := 2) zz_inX5 rfl zw_f_X5_16 rfl (by decide) dX5_walks_34 (by omega) pm_o rfl ?_
    refine zz_icmp_ge (tgt := 77) dX5_walks_37 (by decide) (fun _ => ?_) (fun h => absurd (nI_le (by omega) (by omega)) h)
    refine zz_lvs (lv2 := [(4, .int (nI e)), (3, .int (nI 0)), (0, .ref 54), (1, .int (nI r)), (2, .int (nI i0))]) (fun q hq => by simp only [List.mem_cons, List.not_mem_nil, or_false] at hq; rcases hq with rfl | rfl | rfl | rfl | rfl <;> simp [zz_up1, zz_up2, Value.category, nI_0]) ?_
    exact ml_wkO hr hi0 hn hQ n 0 (by omega) MI D Qn e (bfP_n hi0 hP) hM
  | succ m ih =>
    intro i hi MI D Qn e hP hM
    have hin : i < n := by omega
    have hD0 : D i = 0 := hP.2.2.2.2 i (Nat.le_refl i)
    have he80 : e < n := bfI_lt hP.1 hin hD0
    refine zz_iload dX5_walks_31 rfl ?_
    refine zz_aload_n dX5_walks_33 rfl ?_
    refine zz_get (ci := 5) (j := 2) zz_inX5 rfl zw_f_X5_16 rfl (by decide) dX5_walks_34 (by omega) pm_o rfl ?_
    refine zz_icmp_ge (tgt := 77) dX5_walks_37 (by decide) (fun h => absurd h (nI_ge (by omega) (by omega))) (fun _ => ?_)
    refine zz_aload_n dX5_walks_40 rfl ?_
    refine zz_iload_n dX5_walks_41 rfl ?_
    refine zz_iload_n dX5_walks_42 rfl ?_
    refine zz_iload dX5_walks_43 rfl ?_
    refine zz_callV1 (ci := 5) (m_leads hr (show i0 < 80 by omega) (show i < 80 by omega)) dX5_walks_45 zw_m_X5_66 wYX5_leads wDX5_leads rfl (by omega) pm_o rfl (Nat.le_of_ble_eq_true rfl) (by decide) rfl ?_
    refine zz_if_eq (tgt := 71) dX5_walks_48 (by decide) (fun h48 => ?_) (fun h48 => ?_)
    · refine zz_iinc (v := nI (i + 1)) dX5_walks_71 rfl (nI_1 i) (by decide) ?_
      refine zz_goto (tgt := 31) dX5_walks_74 (by decide) ?_
      first
        | exact ih (i + 1) (by omega) MI D Qn e (bfP_o hP (zB_0.mp h48)) hM
        | (have h9 := ih (i + 1) (by omega) _ _ _ _ (bfP_w hP hin (zB_n.mp h48)) (bfM_f hM (show 1 ≠ 0 by decide)); simp only [up_ne _ _ (show (62 : Nat) ≠ 63 by decide)]; refine zz_lvs (fun q hq => ?_) h9; simp only [List.mem_cons, List.not_mem_nil, or_false] at hq; rcases hq with rfl | rfl | rfl | rfl | rfl | rfl <;> simp [zz_up1, zz_up2, Value.category])
    · refine zz_aload_n dX5_walks_51 rfl ?_
      refine zz_get (ci := 5) (j := 10) zz_inX5 rfl zw_f_X5_39 rfl (by decide) dX5_walks_52 (by omega) pm_o rfl ?_
      refine zz_iload dX5_walks_55 rfl ?_
      refine zz_iconst (v := 1) dX5_walks_57 (by decide) ?_
      refine zs_mi dX5_walks_58 (by omega) (by omega) ?_
      refine zz_aload_n dX5_walks_59 rfl ?_
      refine zz_get (ci := 5) (j := 9) zz_inX5 rfl zw_f_X5_35 rfl (by decide) dX5_walks_60 (by omega) pm_o rfl ?_
      refine zz_iload dX5_walks_63 rfl ?_
      refine zz_iload dX5_walks_65 rfl ?_
      refine zs_mi dX5_walks_67 (by omega) (by omega) ?_
      refine zz_iinc (v := nI (e + 1)) dX5_walks_68 rfl (nI_1 e) (by decide) ?_
      refine zz_iinc (v := nI (i + 1)) dX5_walks_71 rfl (nI_1 i) (by decide) ?_
      refine zz_goto (tgt := 31) dX5_walks_74 (by decide) ?_
      first
        | exact ih (i + 1) (by omega) MI D Qn e (bfP_o hP (zB_0.mp h48)) hM
        | (have h9 := ih (i + 1) (by omega) _ _ _ _ (bfP_w hP hin (zB_n.mp h48)) (bfM_f hM (show 1 ≠ 0 by decide)); simp only [up_ne _ _ (show (62 : Nat) ≠ 63 by decide)]; refine zz_lvs (fun q hq => ?_) h9; simp only [List.mem_cons, List.not_mem_nil, or_false] at hq; rcases hq with rfl | rfl | rfl | rfl | rfl | rfl <;> simp [zz_up1, zz_up2, Value.category])
set_option maxHeartbeats 1000000 in
set_option maxRecDepth 20000 in
theorem ml_wkZ {Q : zz_Q} {r i0 : Nat} (hr : r < 4) (hi0 : i0 < n) (hn : n ≤ 80) (K : zz_E mX5_walks none 2 0 0 Q 23 [(3, .int (nI n)), (0, .ref 54), (1, .int (nI r)), (2, .int (nI i0))] [] (pm MB (va_up MI 63 (cpy n (fun _ => -1) (MI 63))) (nI n) mt T)) : ∀ (m i : Nat), i + m = n → zz_E mX5_walks none 2 0 0 (Q) 2 [(3, .int (nI i)), (0, .ref 54), (1, .int (nI r)), (2, .int (nI i0))] [] (pm MB (va_up MI 63 (cpy i (fun _ => -1) (MI 63))) (nI n) mt T) := by
  intro m
  induction m with
  | zero =>
    intro i hi
    have hi : n = i := by omega
    subst hi
    refine zz_iload_n dX5_walks_2 rfl ?_
    refine zz_aload_n dX5_walks_3 rfl ?_
    refine zz_get (ci := 5) (j := 2) zz_inX5 rfl zw_f_X5_16 rfl (by decide) dX5_walks_4 (by omega) pm_o rfl ?_
    refine zz_icmp_ge (tgt := 23) dX5_walks_7 (by decide) (fun _ => ?_) (fun h => absurd (nI_le (by omega) (by omega)) h)
    exact K
  | succ m ih =>
    intro i hi
    refine zz_iload_n dX5_walks_2 rfl ?_
    refine zz_aload_n dX5_walks_3 rfl ?_
    refine zz_get (ci := 5) (j := 2) zz_inX5 rfl zw_f_X5_16 rfl (by decide) dX5_walks_4 (by omega) pm_o rfl ?_
    refine zz_icmp_ge (tgt := 23) dX5_walks_7 (by decide) (fun h => absurd h (nI_ge (by omega) (by omega))) (fun _ => ?_)
    refine zz_aload_n dX5_walks_10 rfl ?_
    refine zz_get (ci := 5) (j := 10) zz_inX5 rfl zw_f_X5_39 rfl (by decide) dX5_walks_11 (by omega) pm_o rfl ?_
    refine zz_iload_n dX5_walks_14 rfl ?_
    refine zz_iconst (v := (-1)) dX5_walks_15 (by decide) ?_
    refine zs_mi dX5_walks_16 (by omega) (by omega) ?_
    refine zz_iinc (v := nI (i + 1)) dX5_walks_17 rfl (nI_1 i) (by decide) ?_
    refine zz_goto (tgt := 2) dX5_walks_20 (by decide) ?_
    have h9 := ih (i + 1) (by omega)
    rw [← cpy_s i] at h9
    simp only [up_at, up_up]
    exact h9
def wkQ (MB : Nat → Nat → Bool) (n r i0 : Nat) (mt : Int32) (T : zz_St) : zz_Q := fun o τ => o = .inl none ∧ ∃ MI, (∀ k, k < n → (MI 63 k = -1 ∧ ¬ rch (rl MB r) n i0 k) ∨ ∃ d, d ≤ n ∧ MI 63 k = nI d ∧ dst (rl MB r) n i0 k d) ∧ τ = pm MB MI (nI n) mt T
set_option maxHeartbeats 1000000 in
set_option maxRecDepth 20000 in
theorem m_walks {r i0 : Nat} (hr : r < 4) (hi0 : i0 < n) (hn : n ≤ 80) : zz_C mX5_walks 2 0 0 [.ref 54, .int (nI r), .int (nI i0)] (pm MB MI (nI n) mt T) (wkQ MB n r i0 mt T) := by
  refine zz_start wPX5_walks rfl rfl (Nat.le_of_ble_eq_true rfl) ?_
  refine zz_iconst (v := 0) dX5_walks_0 (by decide) ?_
  refine zz_istore_n dX5_walks_1 (by decide) ?_
  have h9 := fun Q K => ml_wkZ (MB := MB) (MI := MI) (mt := mt) (T := T) (Q := Q) hr hi0 hn K n 0 (by omega)
  rw [cpy_0, up_self] at h9
  refine h9 _ ?_
  refine zz_iconst (v := 0) dX5_walks_23 (by decide) ?_
  refine zz_istore_n dX5_walks_24 (by decide) ?_
  refine zz_iconst (v := 0) dX5_walks_25 (by decide) ?_
  refine zz_istore dX5_walks_26 (by decide) ?_
  refine zz_iconst (v := 0) dX5_walks_28 (by decide) ?_
  refine zz_istore dX5_walks_29 (by decide) ?_
  refine zz_lvs (lv2 := [(5, .int (nI 0)), (4, .int (nI 0)), (3, .int 0), (0, .ref 54), (1, .int (nI r)), (2, .int (nI i0))]) (fun q hq => by simp only [List.mem_cons, List.not_mem_nil, or_false] at hq; rcases hq with rfl | rfl | rfl | rfl | rfl | rfl <;> simp [zz_up1, zz_up2, Value.category, nI_0, f4_3]) ?_
  refine ml_wkP hr hi0 hn (fun MI h => ⟨rfl, MI, h, rfl⟩) n 0 (by omega) _ (fun _ => 0) (fun _ => 0) 0 (bfP_0 _ n i0 _) ⟨fun k hk => ?_, fun j hj => absurd hj (Nat.not_lt_zero j)⟩
  rw [up_at]
  exact cpy_lt hk _ _
end ZZM9
