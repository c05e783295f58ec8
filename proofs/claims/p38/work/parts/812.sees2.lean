section ZYB3
variable {El : Nat → Int32} {Lo Hi : Nat → Nat → Int64} {BL BH : Nat → Int64} {Od : Nat → Nat → Int32} {Ls : Nat → Int32} {n : Nat} {R : Nat → Nat → Nat → Bool} {mk : Nat → Bool} {MB : Nat → Nat → Bool} {rho nu : Nat → Int32} {T : zz_St}
set_option maxHeartbeats 1000000 in
set_option maxRecDepth 20000 in
theorem sees_k {r q : Nat} (hr : r < 4) (hq : 54 ≤ q ∧ q < 57) {MB0 : Nat → Nat → Bool} {a : Nat} (ha : a < n) (hn : n ≤ 80) {x0 x1 : Int64} (hx0 : ∀ k, k < 64 → k < n → (x0.toUInt64 >>> ((nI k).toInt64.toUInt64 &&& Int64.toUInt64 63)).toInt64 &&& 1 = if R r a k = true then 1 else 0) (hx1 : ∀ k, 64 ≤ k → k < n → (x1.toUInt64 >>> ((nI (k - 64)).toInt64.toUInt64 &&& Int64.toUInt64 63)).toInt64 &&& 1 = if R r a k = true then 1 else 0) (rc rz : Nat) (K : ∀ MB, grp n (MB q) (R r) (a + 1) 0 → (∀ p, p ≠ q → MB p = MB0 p) → zz_E mL_sees none 8 rc rz (fun o τ => ∃ MB2, gr n (MB2 q) (R r) ∧ (∀ p, p ≠ q → MB2 p = MB0 p) ∧ xQ n R mk (pl MB2 rho nu T) (.inl (some (.int (nI (sm (fun j => cnt (R r j) n) n))))) o τ) 115 [(10, .int (nI n)), (8, .long (x1)), (6, .long (x0)), (5, .int (nI a)), (4, .int (nI (sm (fun j => cnt (R r j) n) a + cnt (R r a) n))), (0, .ref 52), (1, .int (nI r)), (2, .int (nI n)), (3, .ref q)] [] (px El Lo Hi BL BH Od Ls (nI n) (pl MB rho nu T))) : ∀ (m i : Nat), i + m = n → ∀ MB, grp n (MB q) (R r) a i → (∀ p, p ≠ q → MB p = MB0 p) → zz_E mL_sees none 8 rc rz (fun o τ => ∃ MB2, gr n (MB2 q) (R r) ∧ (∀ p, p ≠ q → MB2 p = MB0 p) ∧ xQ n R mk (pl MB2 rho nu T) (.inl (some (.int (nI (sm (fun j => cnt (R r j) n) n))))) o τ) 35 [(10, .int (nI i)), (8, .long (x1)), (6, .long (x0)), (5, .int (nI a)), (4, .int (nI (sm (fun j => cnt (R r j) n) a + cnt (R r a) i))), (0, .ref 52), (1, .int (nI r)), (2, .int (nI n)), (3, .ref q)] [] (px El Lo Hi BL BH Od Ls (nI n) (pl MB rho nu T)) := by
  intro m
  induction m with
  | zero =>
    intro i hi MB hg hp
    have hk : n = i := by omega
    subst hk
    refine zz_iload dL_sees_35 rfl ?_
    refine zz_iload_n dL_sees_37 rfl ?_
    refine zz_icmp_ge (tgt := 115) dL_sees_38 (by decide) (fun _ => ?_) (fun h => absurd (nI_le (Nat.le_refl _) (by omega)) h)
    exact K MB (grp_r hg) hp
  | succ m ih =>
    intro i hi MB hg hp
    have hk : i < n := by omega
    refine zz_iload dL_sees_35 rfl ?_
    refine zz_iload_n dL_sees_37 rfl ?_
    refine zz_icmp_ge (tgt := 115) dL_sees_38 (by decide) (fun h => absurd h (nI_ge (by omega) (by omega))) (fun _ => ?_)
    refine zz_aload_n dL_sees_41 rfl ?_
    refine zz_bipush (v := 80) dL_sees_42 (by decide) ?_
    refine zz_iload dL_sees_44 rfl ?_
    refine zz_imul dL_sees_46 ?_
    refine zz_iload dL_sees_47 rfl ?_
    refine zz_iadd dL_sees_49 ?_
    refine zz_tope (y := nI (80 * a + i)) (by simp only [i80, i81, pk_mul, nI_add, nI_1]) ?_
    refine zz_iload dL_sees_50 rfl ?_
    refine zz_bipush (v := 64) dL_sees_52 (by decide) ?_
    refine zz_icmp_ge (tgt := 65) dL_sees_54 (by decide) (fun h54 => ?_) (fun h54 => ?_)
    · have h64 : 64 ≤ i := (nI_leI (a := 64) (by omega) (by omega)).mp h54
      refine zz_lload dL_sees_65 rfl ?_
      refine zz_iload dL_sees_67 rfl ?_
      refine zz_bipush (v := 64) dL_sees_69 (by decide) ?_
      refine zz_isub dL_sees_71 ?_
      refine zz_tope (y := nI (i - 64)) (nI_m64 i h64 (by omega)) ?_
      refine zz_lushr dL_sees_72 rfl ?_
      refine zz_b1 (b := R r a i) (by first | exact hx0 i h64 hk | exact hx1 i h64 hk) dL_sees_73 dL_sees_74 dL_sees_75 dL_sees_76 dL_sees_77 dL_sees_80 dL_sees_81 dL_sees_84 ?_
      refine zs_qb dL_sees_85 (by omega) (by omega) ?_
      refine zz_iload dL_sees_86 rfl ?_
      refine zz_aload_n dL_sees_88 rfl ?_
      refine zz_bipush (v := 80) dL_sees_89 (by decide) ?_
      refine zz_iload dL_sees_91 rfl ?_
      refine zz_imul dL_sees_93 ?_
      refine zz_iload dL_sees_94 rfl ?_
      refine zz_iadd dL_sees_96 ?_
      refine zz_tope (y := nI (80 * a + i)) (by simp only [i80, i81, pk_mul, nI_add, nI_1]) ?_
      refine zl_qb dL_sees_97 (by omega) (by omega) ?_
      simp only [up_at]
      refine zz_if_eq (tgt := 105) dL_sees_98 (by decide) (fun h98 => ?_) (fun h98 => ?_)
      · refine zz_iconst (v := 0) dL_sees_105 (by decide) ?_
        refine zz_iadd dL_sees_106 ?_
        refine zz_tope (y := nI (sm (fun j => cnt (R r j) n) a + cnt (R r a) (i + 1))) (by first | (rw [cnt_st (zB_n.mp h98), ← Nat.add_assoc, nI_1]) | (rw [cnt_sf (zB_0.mp h98), nI_a0])) ?_
        refine zz_istore dL_sees_107 (by decide) ?_
        refine zz_iinc (v := nI (i + 1)) dL_sees_109 rfl (nI_1 i) (by decide) ?_
        refine zz_goto (tgt := 35) dL_sees_112 (by decide) ?_
        refine zz_lvl (lv2 := [(10, .int (nI (i + 1))), (8, .long (x1)), (6, .long (x0)), (5, .int (nI a)), (4, .int (nI (sm (fun j => cnt (R r j) n) a + cnt (R r a) (i + 1)))), (0, .ref 52), (1, .int (nI r)), (2, .int (nI n)), (3, .ref q)]) ⟨rfl, rfl, rfl, rfl, rfl, rfl, rfl, rfl, rfl, trivial⟩ ?_
        exact ih (i + 1) (by omega) _ (by rw [up_at]; exact grp_s hn ha hk hg) (fun p hpq => (up_ne _ _ hpq).trans (hp p hpq))
      · refine zz_iconst (v := 1) dL_sees_101 (by decide) ?_
        refine zz_goto (tgt := 106) dL_sees_102 (by decide) ?_
        refine zz_iadd dL_sees_106 ?_
        refine zz_tope (y := nI (sm (fun j => cnt (R r j) n) a + cnt (R r a) (i + 1))) (by first | (rw [cnt_st (zB_n.mp h98), ← Nat.add_assoc, nI_1]) | (rw [cnt_sf (zB_0.mp h98), nI_a0])) ?_
        refine zz_istore dL_sees_107 (by decide) ?_
        refine zz_iinc (v := nI (i + 1)) dL_sees_109 rfl (nI_1 i) (by decide) ?_
        refine zz_goto (tgt := 35) dL_sees_112 (by decide) ?_
        refine zz_lvl (lv2 := [(10, .int (nI (i + 1))), (8, .long (x1)), (6, .long (x0)), (5, .int (nI a)), (4, .int (nI (sm (fun j => cnt (R r j) n) a + cnt (R r a) (i + 1)))), (0, .ref 52), (1, .int (nI r)), (2, .int (nI n)), (3, .ref q)]) ⟨rfl, rfl, rfl, rfl, rfl, rfl, rfl, rfl, rfl, trivial⟩ ?_
        exact ih (i + 1) (by omega) _ (by rw [up_at]; exact grp_s hn ha hk hg) (fun p hpq => (up_ne _ _ hpq).trans (hp p hpq))
    · have h64 : i < 64 := Nat.lt_of_not_le (fun q => h54 (nI_le (a := 64) q (by omega)))
      refine zz_lload dL_sees_57 rfl ?_
      refine zz_iload dL_sees_59 rfl ?_
      refine zz_lushr dL_sees_61 rfl ?_
      refine zz_goto (tgt := 73) dL_sees_62 (by decide) ?_
      refine zz_b1 (b := R r a i) (by first | exact hx0 i h64 hk | exact hx1 i h64 hk) dL_sees_73 dL_sees_74 dL_sees_75 dL_sees_76 dL_sees_77 dL_sees_80 dL_sees_81 dL_sees_84 ?_
      refine zs_qb dL_sees_85 (by omega) (by omega) ?_
      refine zz_iload dL_sees_86 rfl ?_
      refine zz_aload_n dL_sees_88 rfl ?_
      refine zz_bipush (v := 80) dL_sees_89 (by decide) ?_
      refine zz_iload dL_sees_91 rfl ?_
      refine zz_imul dL_sees_93 ?_
      refine zz_iload dL_sees_94 rfl ?_
      refine zz_iadd dL_sees_96 ?_
      refine zz_tope (y := nI (80 * a + i)) (by simp only [i80, i81, pk_mul, nI_add, nI_1]) ?_
      refine zl_qb dL_sees_97 (by omega) (by omega) ?_
      simp only [up_at]
      refine zz_if_eq (tgt := 105) dL_sees_98 (by decide) (fun h98 => ?_) (fun h98 => ?_)
      · refine zz_iconst (v := 0) dL_sees_105 (by decide) ?_
        refine zz_iadd dL_sees_106 ?_
        refine zz_tope (y := nI (sm (fun j => cnt (R r j) n) a + cnt (R r a) (i + 1))) (by first | (rw [cnt_st (zB_n.mp h98), ← Nat.add_assoc, nI_1]) | (rw [cnt_sf (zB_0.mp h98), nI_a0])) ?_
        refine zz_istore dL_sees_107 (by decide) ?_
        refine zz_iinc (v := nI (i + 1)) dL_sees_109 rfl (nI_1 i) (by decide) ?_
        refine zz_goto (tgt := 35) dL_sees_112 (by decide) ?_
        refine zz_lvl (lv2 := [(10, .int (nI (i + 1))), (8, .long (x1)), (6, .long (x0)), (5, .int (nI a)), (4, .int (nI (sm (fun j => cnt (R r j) n) a + cnt (R r a) (i + 1)))), (0, .ref 52), (1, .int (nI r)), (2, .int (nI n)), (3, .ref q)]) ⟨rfl, rfl, rfl, rfl, rfl, rfl, rfl, rfl, rfl, trivial⟩ ?_
        exact ih (i + 1) (by omega) _ (by rw [up_at]; exact grp_s hn ha hk hg) (fun p hpq => (up_ne _ _ hpq).trans (hp p hpq))
      · refine zz_iconst (v := 1) dL_sees_101 (by decide) ?_
        refine zz_goto (tgt := 106) dL_sees_102 (by decide) ?_
        refine zz_iadd dL_sees_106 ?_
        refine zz_tope (y := nI (sm (fun j => cnt (R r j) n) a + cnt (R r a) (i + 1))) (by first | (rw [cnt_st (zB_n.mp h98), ← Nat.add_assoc, nI_1]) | (rw [cnt_sf (zB_0.mp h98), nI_a0])) ?_
        refine zz_istore dL_sees_107 (by decide) ?_
        refine zz_iinc (v := nI (i + 1)) dL_sees_109 rfl (nI_1 i) (by decide) ?_
        refine zz_goto (tgt := 35) dL_sees_112 (by decide) ?_
        refine zz_lvl (lv2 := [(10, .int (nI (i + 1))), (8, .long (x1)), (6, .long (x0)), (5, .int (nI a)), (4, .int (nI (sm (fun j => cnt (R r j) n) a + cnt (R r a) (i + 1)))), (0, .ref 52), (1, .int (nI r)), (2, .int (nI n)), (3, .ref q)]) ⟨rfl, rfl, rfl, rfl, rfl, rfl, rfl, rfl, rfl, trivial⟩ ?_
        exact ih (i + 1) (by omega) _ (by rw [up_at]; exact grp_s hn ha hk hg) (fun p hpq => (up_ne _ _ hpq).trans (hp p hpq))
set_option maxHeartbeats 1000000 in
set_option maxRecDepth 20000 in
theorem sees_i {r q : Nat} (hr : r < 4) (hq : 54 ≤ q ∧ q < 57) {MB0 : Nat → Nat → Bool} (hn : n ≤ 80) : ∀ (m i : Nat), i + m = n → ∀ (El : Nat → Int32) (Lo Hi : Nat → Nat → Int64) (BL BH : Nat → Int64) (Od : Nat → Nat → Int32) (Ls : Nat → Int32), cI n El Lo Hi BL BH R mk → ∀ MB, grp n (MB q) (R r) i 0 → (∀ p, p ≠ q → MB p = MB0 p) → zz_E mL_sees none 8 (2 * m) (12 * m) (fun o τ => ∃ MB2, gr n (MB2 q) (R r) ∧ (∀ p, p ≠ q → MB2 p = MB0 p) ∧ xQ n R mk (pl MB2 rho nu T) (.inl (some (.int (nI (sm (fun j => cnt (R r j) n) n))))) o τ) 6 [(5, .int (nI i)), (4, .int (nI (sm (fun j => cnt (R r j) n) i))), (0, .ref 52), (1, .int (nI r)), (2, .int (nI n)), (3, .ref q)] [] (px El Lo Hi BL BH Od Ls (nI n) (pl MB rho nu T)) := by
  intro m
  induction m with
  | zero =>
    intro i hi El Lo Hi BL BH Od Ls hI MB hg hp
    have hk : n = i := by omega
    subst hk
    refine zz_iload dL_sees_6 rfl ?_
    refine zz_iload_n dL_sees_8 rfl ?_
    refine zz_icmp_ge (tgt := 121) dL_sees_9 (by decide) (fun _ => ?_) (fun h => absurd (nI_le (Nat.le_refl _) (by omega)) h)
    refine zz_iload dL_sees_121 rfl ?_
    refine zz_iret dL_sees_123 rfl ?_
    exact ⟨MB, grp_n hg, hp, xQ_i rfl hI⟩
  | succ m ih =>
    intro i hi El Lo Hi BL BH Od Ls hI MB hg hp
    have hk : i < n := by omega
    refine zz_iload dL_sees_6 rfl ?_
    refine zz_iload_n dL_sees_8 rfl ?_
    refine zz_icmp_ge (tgt := 121) dL_sees_9 (by decide) (fun h => absurd h (nI_ge (by omega) (by omega))) (fun _ => ?_)
    refine zz_aload_n dL_sees_12 rfl ?_
    refine zz_iload_n dL_sees_13 rfl ?_
    refine zz_iload dL_sees_14 rfl ?_
    refine zz_iconst (v := 0) dL_sees_16 (by decide) ?_
    refine zz_callV (ci := 4) (x_wordOf_v (w := 0) hr hk (by omega) hI) dL_sees_17 zw_m_L_63 wYX4_wordOf wDX4_wordOf rfl (by omega) px_x rfl (Nat.le_of_ble_eq_true rfl) (by decide) (by omega) (by omega) rfl ?_ (fun E τ hE => by cases hE.1)
    rintro v1 τ1 ⟨hv1, El1, Lo1, Hi1, BL1, BH1, Od1, Ls1, hI1, rfl⟩
    cases hv1
    refine zz_lstore dL_sees_20 (by decide) ?_
    refine zz_aload_n dL_sees_22 rfl ?_
    refine zz_iload_n dL_sees_23 rfl ?_
    refine zz_iload dL_sees_24 rfl ?_
    refine zz_iconst (v := 1) dL_sees_26 (by decide) ?_
    refine zz_callV (ci := 4) (x_wordOf_v (w := 1) hr hk (by omega) hI1) dL_sees_27 zw_m_L_63 wYX4_wordOf wDX4_wordOf rfl (by omega) px_x rfl (Nat.le_of_ble_eq_true rfl) (by decide) (by omega) (by omega) rfl ?_ (fun E τ hE => by cases hE.1)
    rintro v2 τ2 ⟨hv2, El2, Lo2, Hi2, BL2, BH2, Od2, Ls2, hI2, rfl⟩
    cases hv2
    refine zz_lstore dL_sees_30 (by decide) ?_
    refine zz_iconst (v := 0) dL_sees_32 (by decide) ?_
    refine zz_istore dL_sees_33 (by decide) ?_
    refine zz_lvl (lv2 := [(10, .int (nI 0)), (8, .long (wrd (fun k => decide (64 * 1 + k < n) && R r i (64 * 1 + k)) 64)), (6, .long (wrd (fun k => decide (64 * 0 + k < n) && R r i (64 * 0 + k)) 64)), (5, .int (nI i)), (4, .int (nI (sm (fun j => cnt (R r j) n) i + cnt (R r i) 0))), (0, .ref 52), (1, .int (nI r)), (2, .int (nI n)), (3, .ref q)]) ⟨rfl, rfl, rfl, rfl, rfl, rfl, rfl, rfl, rfl, trivial⟩ ?_
    refine sees_k hr hq (show i < n by omega) hn (fun k h1 h2 => see_lo h1 h2) (fun k h1 h2 => see_hi h1 h2 hn) _ _ (fun MB2 hg2 hp2 => ?_) n 0 (by omega) MB hg hp
    refine zz_iinc (v := nI (i + 1)) dL_sees_115 rfl (nI_1 i) (by decide) ?_
    refine zz_goto (tgt := 6) dL_sees_118 (by decide) ?_
    refine zz_less (rc1 := 2 * m) (rz1 := 12 * m) (by omega) (by omega) ?_
    refine zz_lvl (lv2 := [(5, .int (nI (i + 1))), (4, .int (nI (sm (fun j => cnt (R r j) n) (i + 1)))), (0, .ref 52), (1, .int (nI r)), (2, .int (nI n)), (3, .ref q)]) ⟨rfl, rfl, rfl, rfl, rfl, rfl, trivial⟩ ?_
    exact ih (i + 1) (by omega) _ _ _ _ _ _ _ hI2 MB2 hg2 hp2
set_option maxHeartbeats 1000000 in
set_option maxRecDepth 20000 in
theorem c_sees {r q : Nat} (hr : r < 4) (hq : 54 ≤ q ∧ q < 57) (hI : cI n El Lo Hi BL BH R mk) : zz_C mL_sees 8 160 960 [.ref 52, .int (nI r), .int (nI n), .ref q] (px El Lo Hi BL BH Od Ls (nI n) (pl MB rho nu T)) (fun o τ => ∃ MB2, gr n (MB2 q) (R r) ∧ (∀ p, p ≠ q → MB2 p = MB p) ∧ xQ n R mk (pl MB2 rho nu T) (.inl (some (.int (nI (sm (fun j => cnt (R r j) n) n))))) o τ) := by
  have hn := cI_n hI
  · refine zz_start wPL_sees rfl rfl (Nat.le_of_ble_eq_true rfl) ?_
    refine zz_iconst (v := 0) dL_sees_0 (by decide) ?_
    refine zz_istore dL_sees_1 (by decide) ?_
    refine zz_iconst (v := 0) dL_sees_3 (by decide) ?_
    refine zz_istore dL_sees_4 (by decide) ?_
    refine zz_less (rc1 := 2 * n) (rz1 := 12 * n) (by omega) (by omega) ?_
    refine zz_lvl (lv2 := [(5, .int (nI 0)), (4, .int (nI (sm (fun j => cnt (R r j) n) 0))), (0, .ref 52), (1, .int (nI r)), (2, .int (nI n)), (3, .ref q)]) ⟨rfl, rfl, rfl, rfl, rfl, rfl, trivial⟩ ?_
    exact sees_i hr hq hn n 0 (by omega) _ _ _ _ _ _ _ hI MB (grp_0 n _ _) (fun _ _ => rfl)
end ZYB3
