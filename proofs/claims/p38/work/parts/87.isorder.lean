section ZYO
variable {El : Nat → Int32} {Lo Hi : Nat → Nat → Int64} {BL BH : Nat → Int64} {Od : Nat → Nat → Int32} {Ls : Nat → Int32} {n : Nat} {R : Nat → Nat → Nat → Bool} {mk : Nat → Bool} {MB : Nat → Nat → Bool} {rho nu : Nat → Int32} {T : zz_St}
theorem nx_free {R : Nat → Nat → Bool} {n p e : Nat} (h : ∀ k, k < e → fre R n (orM R n p) k = false) (hf : fre R n (orM R n p) e = true) (he : e < n) : e = orX R n p := by
  rcases orX_s (R := R) (n := n) (p := p) with ⟨_, h2⟩ | ⟨h1, h2, h3⟩
  · rw [h2 e he] at hf; cases hf
  · rcases Nat.lt_trichotomy e (orX R n p) with q | q | q
    · rw [h3 e q] at hf; cases hf
    · exact q
    · rw [h _ q] at h2; cases h2
/-- the longest walk that ends at e has D steps -/
def dp (R : Nat → Nat → Bool) (n e D : Nat) : Prop := weB R n D e = true ∧ ∀ m, weB R n m e = true → m ≤ D
theorem dp_lt {R : Nat → Nat → Bool} {n e D : Nat} (hg : ¬ rng1 R n) (he : e < n) (h : weB R n D e = true) : D < n := by
  refine Nat.lt_of_not_le (fun q => hg (we_ring he ?_))
  rw [← Nat.add_sub_cancel' q] at h
  exact weB_d h
theorem dp_u {R : Nat → Nat → Bool} {n e D E : Nat} (h1 : dp R n e D) (h2 : dp R n e E) : D = E := Nat.le_antisymm (h2.2 D h1.1) (h1.2 E h2.1)
/-- depths of what is taken -/
def dI (R : Nat → Nat → Bool) (n : Nat) (M : Nat → Bool) (nu : Nat → Int32) : Prop := ∀ e, e < n → (M e = true → ∃ D, nu e = nI D ∧ dp R n e D) ∧ (M e = false → nu e = 0)
/-- the most of them -/
def mI (R : Nat → Nat → Bool) (n : Nat) (M : Nat → Bool) (x : Nat) : Prop := (x = 0 ∨ ∃ e, e < n ∧ M e = true ∧ dp R n e x) ∧ ∀ e D, e < n → M e = true → dp R n e D → D ≤ x
/-- the depth of e, the elements below k looked at -/
def kI (R : Nat → Nat → Bool) (n e k c : Nat) : Prop := weB R n c e = true ∧ ∀ j D, j < k → R j e = true → dp R n j D → D + 1 ≤ c
theorem kI_0 {R : Nat → Nat → Bool} {n e : Nat} : kI R n e 0 0 := ⟨rfl, fun j D h => absurd h (Nat.not_lt_zero j)⟩
theorem kI_o {R : Nat → Nat → Bool} {n e k c : Nat} (h : kI R n e k c) (hk : R k e = false) : kI R n e (k + 1) c := ⟨h.1, fun j D hj hr hd => by
  by_cases q : j = k
  · subst q; rw [hk] at hr; cases hr
  · exact h.2 j D (by omega) hr hd⟩
theorem kI_s {R : Nat → Nat → Bool} {n e k c D : Nat} (hk : k < n) (h : kI R n e k c) (hr : R k e = true) (hd : dp R n k D) : kI R n e (k + 1) (max c (D + 1)) := ⟨by
    rcases Nat.le_total c (D + 1) with q | q
    · rw [Nat.max_eq_right q]
      exact weB_s.mpr ⟨k, hk, hd.1, hr⟩
    · rw [Nat.max_eq_left q]
      exact h.1, fun j E hj hrj hE => by
    by_cases q : j = k
    · subst q
      rw [dp_u hE hd]
      exact Nat.le_max_right _ _
    · exact Nat.le_trans (h.2 j E (by omega) hrj hE) (Nat.le_max_left _ _)⟩
theorem kI_n {R : Nat → Nat → Bool} {n e c : Nat} {M : Nat → Bool} (h : kI R n e n c) (hf : fre R n M e = true) (hM : ∀ k, k < n → M k = true → ∃ D, dp R n k D) : dp R n e c := ⟨h.1, fun m hm => by
  cases m with
  | zero => exact Nat.zero_le c
  | succ m =>
    obtain ⟨j, h1, h2, h3⟩ := weB_s.mp hm
    obtain ⟨D, hD⟩ := hM j h1 (fre_1 hf h1 h3)
    exact Nat.le_trans (Nat.succ_le_succ (hD.2 m h2)) (h.2 j D h1 h3 hD)⟩
theorem mI_0 {R : Nat → Nat → Bool} {n : Nat} : mI R n (orM R n 0) 0 := ⟨Or.inl rfl, fun e D _ h => by cases h⟩
theorem mI_s {R : Nat → Nat → Bool} {n p x c : Nat} (hx : orX R n p < n) (h : mI R n (orM R n p) x) (hc : dp R n (orX R n p) c) : mI R n (orM R n (p + 1)) (max x c) := by
  have hin : orM R n (p + 1) (orX R n p) = true := by rw [orM_s, up_at]
  refine ⟨?_, fun e D he hM hD => ?_⟩
  · rcases Nat.le_total x c with q | q
    · rw [Nat.max_eq_right q]
      exact Or.inr ⟨_, hx, hin, hc⟩
    · rw [Nat.max_eq_left q]
      rcases h.1 with h1 | ⟨e, h1, h2, h3⟩
      · exact Or.inl h1
      · refine Or.inr ⟨e, h1, ?_, h3⟩
        rw [orM_s]
        unfold va_up
        split
        · rfl
        · exact h2
  · by_cases q : e = orX R n p
    · subst q
      rw [dp_u hD hc]
      exact Nat.le_max_right _ _
    · rw [orM_s, up_ne _ _ q] at hM
      exact Nat.le_trans (h.2 e D he hM hD) (Nat.le_max_left _ _)
theorem dI_0 {R : Nat → Nat → Bool} {n : Nat} : dI R n (orM R n 0) (fun _ => 0) := fun e _ => ⟨fun h => (by cases h), fun _ => rfl⟩
theorem dI_s {R : Nat → Nat → Bool} {n p c : Nat} {nu nu2 : Nat → Int32} (h : dI R n (orM R n p) nu) (hc : dp R n (orX R n p) c) (h1 : nu2 (orX R n p) = nI c) (h2 : ∀ j, j ≠ orX R n p → nu2 j = nu j) : dI R n (orM R n (p + 1)) nu2 := fun e he => by
  rw [orM_s]
  by_cases q : e = orX R n p
  · subst q
    rw [up_at]
    exact ⟨fun _ => ⟨c, h1, hc⟩, fun q => by cases q⟩
  · rw [up_ne _ _ q, h2 e q]
    exact h e he
theorem dI_e {R : Nat → Nat → Bool} {n x : Nat} {nu : Nat → Int32} (h1n : 1 ≤ n) (ho : orN R n = n) (h : dI R n (orM R n n) nu) (hm : mI R n (orM R n n) x) : lwS R n x := by
  have hall : ∀ e, e < n → orM R n n e = true := fun e he => by
    obtain ⟨j, hj, hq⟩ := orX_all ho he
    exact orM_i.mpr ⟨j, hj, hq⟩
  refine ⟨?_, fun m e he hw => ?_⟩
  · rcases hm.1 with rfl | ⟨e, h2, _, h3⟩
    · exact ⟨0, by omega, rfl⟩
    · exact ⟨e, h2, h3.1⟩
  · obtain ⟨D, _, hD⟩ := (h e he).1 (hall e he)
    exact Nat.le_trans (hD.2 m hw) (hm.2 e D he (hall e he) hD)
theorem nI_mx {a b : Nat} (ha : a < 2 ^ 31) (hb : b < 2 ^ 31) : (if nI a < nI b then nI b else nI a) = nI (max a b) := by
  by_cases q : a < b
  · rw [if_pos (nI_lt q hb), Nat.max_eq_right (by omega)]
  · rw [if_neg (nI_nlt (by omega) ha), Nat.max_eq_left (by omega)]
set_option maxHeartbeats 1000000 in
set_option maxRecDepth 20000 in
theorem free_k {X : Nat → Nat → Bool} (hg : gr n (MB 54) X) (hn : n ≤ 80) (hk2 : zz_k T = 2) {e : Nat} (he : e < n) : ∀ (m i : Nat), i + m = n → (∀ k, k < i → (MB 58 k || !(X k e)) = true) → zz_E mL_isFree none 0 0 0 (fun o τ => o = .inl (some (.int (zB (alb (fun k => MB 58 k || !(X k e)) n)))) ∧ τ = px El Lo Hi BL BH Od Ls (nI n) (pl MB rho nu T)) 3 [(4, .int (nI i)), (0, .ref 54), (1, .int (nI n)), (2, .int (nI e)), (3, .ref 58)] [] (px El Lo Hi BL BH Od Ls (nI n) (pl MB rho nu T)) := by
  intro m
  induction m with
  | zero =>
    intro i hi h0
    have hk : n = i := by omega
    subst hk
    rw [show (alb (fun k => MB 58 k || !(X k e)) n) = true from alb_t.mpr h0]
    refine zz_iload dL_isFree_3 rfl ?_
    refine zz_iload_n dL_isFree_5 rfl ?_
    refine zz_icmp_ge (tgt := 36) dL_isFree_6 (by decide) (fun _ => ?_) (fun h => absurd (nI_le (Nat.le_refl _) (by omega)) h)
    refine zz_iconst (v := 1) dL_isFree_36 (by decide) ?_
    refine zz_zret dL_isFree_37 rfl (by first | rfl | exact zB_nar _) ?_
    exact ⟨rfl, rfl⟩
  | succ m ih =>
    intro i hi h0
    have hk : i < n := by omega
    refine zz_iload dL_isFree_3 rfl ?_
    refine zz_iload_n dL_isFree_5 rfl ?_
    refine zz_icmp_ge (tgt := 36) dL_isFree_6 (by decide) (fun h => absurd h (nI_ge (by omega) (by omega))) (fun _ => ?_)
    refine zz_aload_n dL_isFree_9 rfl ?_
    refine zz_iload dL_isFree_10 rfl ?_
    refine zl_q8 dL_isFree_12 hk2 (by omega) ?_
    refine zz_if_ne (tgt := 30) dL_isFree_13 (by decide) (fun h13 => ?_) (fun h13 => ?_)
    · refine zz_iinc (v := nI (i + 1)) dL_isFree_30 rfl (nI_1 i) (by decide) ?_
      refine zz_goto (tgt := 3) dL_isFree_33 (by decide) ?_
      refine zz_lvl (lv2 := [(4, .int (nI (i + 1))), (0, .ref 54), (1, .int (nI n)), (2, .int (nI e)), (3, .ref 58)]) ⟨rfl, rfl, rfl, rfl, rfl, trivial⟩ ?_
      exact ih (i + 1) (by omega) (fun k hk3 => by
        by_cases q : k = i
        · subst q
          first | (rw [zB_n.mp h13]; rfl) | (rw [zB_0.mp h25, Bool.or_comm]; rfl)
        · exact h0 k (by omega))
    · refine zz_aload_n dL_isFree_16 rfl ?_
      refine zz_bipush (v := 80) dL_isFree_17 (by decide) ?_
      refine zz_iload dL_isFree_19 rfl ?_
      refine zz_imul dL_isFree_21 ?_
      refine zz_iload_n dL_isFree_22 rfl ?_
      refine zz_iadd dL_isFree_23 ?_
      refine zz_tope (y := nI (80 * i + e)) (by simp only [i80, i81, pk_mul, nI_add, nI_1]) ?_
      refine zl_qb dL_isFree_24 (by omega) (by omega) ?_
      rw [hg i e hk he]
      refine zz_if_eq (tgt := 30) dL_isFree_25 (by decide) (fun h25 => ?_) (fun h25 => ?_)
      · refine zz_iinc (v := nI (i + 1)) dL_isFree_30 rfl (nI_1 i) (by decide) ?_
        refine zz_goto (tgt := 3) dL_isFree_33 (by decide) ?_
        refine zz_lvl (lv2 := [(4, .int (nI (i + 1))), (0, .ref 54), (1, .int (nI n)), (2, .int (nI e)), (3, .ref 58)]) ⟨rfl, rfl, rfl, rfl, rfl, trivial⟩ ?_
        exact ih (i + 1) (by omega) (fun k hk3 => by
          by_cases q : k = i
          · subst q
            first | (rw [zB_n.mp h13]; rfl) | (rw [zB_0.mp h25, Bool.or_comm]; rfl)
          · exact h0 k (by omega))
      · rw [show (alb (fun k => MB 58 k || !(X k e)) n) = false from alb_f hk (show (MB 58 i || !(X i e)) = false by rw [zB_0.mp h13, zB_n.mp h25]; rfl)]
        refine zz_iconst (v := 0) dL_isFree_28 (by decide) ?_
        refine zz_zret dL_isFree_29 rfl (by first | rfl | exact zB_nar _) ?_
        exact ⟨rfl, rfl⟩
set_option maxHeartbeats 1000000 in
set_option maxRecDepth 20000 in
theorem c_isFree {X : Nat → Nat → Bool} (hg : gr n (MB 54) X) (hn : n ≤ 80) (hk2 : zz_k T = 2) {e : Nat} (he : e < n) : zz_C mL_isFree 0 0 0 [.ref 54, .int (nI n), .int (nI e), .ref 58] (px El Lo Hi BL BH Od Ls (nI n) (pl MB rho nu T)) (fun o τ => o = .inl (some (.int (zB (alb (fun k => MB 58 k || !(X k e)) n)))) ∧ τ = px El Lo Hi BL BH Od Ls (nI n) (pl MB rho nu T)) := by
  · refine zz_start wPL_isFree rfl rfl (Nat.le_of_ble_eq_true rfl) ?_
    refine zz_iconst (v := 0) dL_isFree_0 (by decide) ?_
    refine zz_istore dL_isFree_1 (by decide) ?_
    refine zz_lvl (lv2 := [(4, .int (nI 0)), (0, .ref 54), (1, .int (nI n)), (2, .int (nI e)), (3, .ref 58)]) ⟨rfl, rfl, rfl, rfl, rfl, trivial⟩ ?_
    exact free_k hg hn hk2 he n 0 (by omega) (fun k h => absurd h (by omega))
set_option maxHeartbeats 1000000 in
set_option maxRecDepth 20000 in
theorem or_90 {r : Nat} (hr : r < 4) (ho : orN (R r) n = n) (hg0 : ¬ rng1 (R r) n) (hn : n ≤ 80) (h1n : 1 ≤ n) (hk2 : zz_k T = 2) {MB0 : Nat → Nat → Bool} (hgr : gr n (MB0 54) (R r)) {q x : Nat} (hq : orX (R r) n q < n) {nu0 : Nat → Int32} (hM : ∀ k, k < n → orM (R r) n q k = true → ∃ D, nu0 k = nI D ∧ dp (R r) n k D) (hf : fre (R r) n (orM (R r) n q) (orX (R r) n q) = true) (hp54 : MB 54 = MB0 54) (rc rz : Nat) (K : ∀ (c : Nat) (nu : Nat → Int32), kI (R r) n (orX (R r) n q) n c → nu (orX (R r) n q) = nI c → (∀ j, j ≠ orX (R r) n q → nu j = nu0 j) → zz_E mL_isOrder none 10 rc rz (fun o τ => ∃ MB2 nu2, (∀ p, p < 57 → MB2 p = MB0 p) ∧ xQ n R mk (pl MB2 rho nu2 T) (.inl (some (.int 1))) o τ) 135 [(8, .int (nI (orX (R r) n q))), (7, .int (nI q)), (6, .int (nI x)), (0, .ref 52), (1, .int (nI r)), (2, .int (nI n)), (3, .ref 54), (4, .ref 58), (5, .ref 59)] [] (px El Lo Hi BL BH Od Ls (nI n) (pl MB rho nu T))) : ∀ (m i : Nat), i + m = n → ∀ (c : Nat) (nu : Nat → Int32), kI (R r) n (orX (R r) n q) i c → nu (orX (R r) n q) = nI c → (∀ j, j ≠ orX (R r) n q → nu j = nu0 j) → zz_E mL_isOrder none 10 rc rz (fun o τ => ∃ MB2 nu2, (∀ p, p < 57 → MB2 p = MB0 p) ∧ xQ n R mk (pl MB2 rho nu2 T) (.inl (some (.int 1))) o τ) 90 [(9, .int (nI i)), (8, .int (nI (orX (R r) n q))), (7, .int (nI q)), (6, .int (nI x)), (0, .ref 52), (1, .int (nI r)), (2, .int (nI n)), (3, .ref 54), (4, .ref 58), (5, .ref 59)] [] (px El Lo Hi BL BH Od Ls (nI n) (pl MB rho nu T)) := by
  intro m
  induction m with
  | zero =>
    intro i hi c nu hc h1 h2
    have hk : n = i := by omega
    subst hk
    refine zz_iload dL_isOrder_90 rfl ?_
    refine zz_iload_n dL_isOrder_92 rfl ?_
    refine zz_icmp_ge (tgt := 135) dL_isOrder_93 (by decide) (fun _ => ?_) (fun h => absurd (nI_le (Nat.le_refl _) (by omega)) h)
    refine zz_lvl (lv2 := [(8, .int (nI (orX (R r) n q))), (7, .int (nI q)), (6, .int (nI x)), (0, .ref 52), (1, .int (nI r)), (2, .int (nI n)), (3, .ref 54), (4, .ref 58), (5, .ref 59)]) ⟨rfl, rfl, rfl, rfl, rfl, rfl, rfl, rfl, rfl, trivial⟩ ?_
    exact K c nu hc h1 h2
  | succ m ih =>
    intro i hi c nu hc h1 h2
    have hk : i < n := by omega
    have hcn := dp_lt hg0 hq hc.1
    refine zz_iload dL_isOrder_90 rfl ?_
    refine zz_iload_n dL_isOrder_92 rfl ?_
    refine zz_icmp_ge (tgt := 135) dL_isOrder_93 (by decide) (fun h => absurd h (nI_ge (by omega) (by omega))) (fun _ => ?_)
    refine zz_aload_n dL_isOrder_96 rfl ?_
    refine zz_bipush (v := 80) dL_isOrder_97 (by decide) ?_
    refine zz_iload dL_isOrder_99 rfl ?_
    refine zz_imul dL_isOrder_101 ?_
    refine zz_iload dL_isOrder_102 rfl ?_
    refine zz_iadd dL_isOrder_104 ?_
    refine zz_tope (y := nI (80 * i + orX (R r) n q)) (by simp only [i80, i81, pk_mul, nI_add, nI_1]) ?_
    refine zl_qb dL_isOrder_105 (by omega) (by omega) ?_
    rw [hp54, hgr i _ hk hq]
    refine zz_if_eq (tgt := 129) dL_isOrder_106 (by decide) (fun h106 => ?_) (fun h106 => ?_)
    · refine zz_iinc (v := nI (i + 1)) dL_isOrder_129 rfl (nI_1 i) (by decide) ?_
      refine zz_goto (tgt := 90) dL_isOrder_132 (by decide) ?_
      refine zz_lvl (lv2 := [(9, .int (nI (i + 1))), (8, .int (nI (orX (R r) n q))), (7, .int (nI q)), (6, .int (nI x)), (0, .ref 52), (1, .int (nI r)), (2, .int (nI n)), (3, .ref 54), (4, .ref 58), (5, .ref 59)]) ⟨rfl, rfl, rfl, rfl, rfl, rfl, rfl, rfl, rfl, rfl, trivial⟩ ?_
      exact ih (i + 1) (by omega) c nu (kI_o hc (zB_0.mp h106)) h1 h2
    · have hri := zB_n.mp h106
      obtain ⟨D, hD1, hD2⟩ := hM i hk (fre_1 hf hk hri)
      have hDn := dp_lt hg0 hk hD2.1
      have hne : i ≠ orX (R r) n q := by
        intro e9
        have e8 := fre_0 hf
        rw [← e9, fre_1 hf hk hri] at e8
        cases e8
      refine zz_aload dL_isOrder_109 rfl ?_
      refine zz_iload dL_isOrder_111 rfl ?_
      refine zz_aload dL_isOrder_113 rfl ?_
      refine zz_iload dL_isOrder_115 rfl ?_
      first | refine zl_r dL_isOrder_117 ?_ | refine zl_q9 dL_isOrder_117 hk2 (by omega) ?_
      rw [h1]
      refine zz_aload dL_isOrder_118 rfl ?_
      refine zz_iload dL_isOrder_120 rfl ?_
      first | refine zl_r dL_isOrder_122 ?_ | refine zl_q9 dL_isOrder_122 hk2 (by omega) ?_
      rw [h2 i hne, hD1]
      refine zz_iconst (v := 1) dL_isOrder_123 (by decide) ?_
      refine zz_iadd dL_isOrder_124 ?_
      refine zz_tope (y := nI (D + 1)) (nI_1 D) ?_
      refine zz_max dL_isOrder_125 zw_m_L_157 (by omega) (Nat.le_of_ble_eq_true rfl) ?_
      refine zz_tope (y := nI (max c (D + 1))) (nI_mx (by omega) (by omega)) ?_
      first | refine zs_r dL_isOrder_128 ?_ | refine zs_q9 dL_isOrder_128 hk2 (by omega) ?_
      refine zz_iinc (v := nI (i + 1)) dL_isOrder_129 rfl (nI_1 i) (by decide) ?_
      refine zz_goto (tgt := 90) dL_isOrder_132 (by decide) ?_
      refine zz_lvl (lv2 := [(9, .int (nI (i + 1))), (8, .int (nI (orX (R r) n q))), (7, .int (nI q)), (6, .int (nI x)), (0, .ref 52), (1, .int (nI r)), (2, .int (nI n)), (3, .ref 54), (4, .ref 58), (5, .ref 59)]) ⟨rfl, rfl, rfl, rfl, rfl, rfl, rfl, rfl, rfl, rfl, trivial⟩ ?_
      exact ih (i + 1) (by omega) _ _ (kI_s hk hc hri hD2) (up_at _ _ _) (fun j hj => (up_ne _ _ hj).trans (h2 j hj))
set_option maxHeartbeats 1000000 in
set_option maxRecDepth 20000 in
theorem or_27 {r : Nat} (hr : r < 4) (ho : orN (R r) n = n) (hg0 : ¬ rng1 (R r) n) (hn : n ≤ 80) (h1n : 1 ≤ n) (hk2 : zz_k T = 2) {MB0 : Nat → Nat → Bool} (hgr : gr n (MB0 54) (R r)) {q x : Nat} (hq : orX (R r) n q < n) (h58 : ∀ e, e < n → MB 58 e = orM (R r) n q e) (hp54 : MB 54 = MB0 54) (rc rz : Nat) (K : zz_E mL_isOrder none 10 rc rz (fun o τ => ∃ MB2 nu2, (∀ p, p < 57 → MB2 p = MB0 p) ∧ xQ n R mk (pl MB2 rho nu2 T) (.inl (some (.int 1))) o τ) 59 [(8, .int (nI (orX (R r) n q))), (7, .int (nI q)), (6, .int (nI x)), (0, .ref 52), (1, .int (nI r)), (2, .int (nI n)), (3, .ref 54), (4, .ref 58), (5, .ref 59)] [] (px El Lo Hi BL BH Od Ls (nI n) (pl MB rho nu T))) : ∀ (m i : Nat), i + m = n → (∀ k, k < i → fre (R r) n (orM (R r) n q) k = false) → zz_E mL_isOrder none 10 rc rz (fun o τ => ∃ MB2 nu2, (∀ p, p < 57 → MB2 p = MB0 p) ∧ xQ n R mk (pl MB2 rho nu2 T) (.inl (some (.int 1))) o τ) 27 [(8, .int (nI i)), (7, .int (nI q)), (6, .int (nI x)), (0, .ref 52), (1, .int (nI r)), (2, .int (nI n)), (3, .ref 54), (4, .ref 58), (5, .ref 59)] [] (px El Lo Hi BL BH Od Ls (nI n) (pl MB rho nu T)) := by
  intro m
  induction m with
  | zero =>
    intro i hi h0
    exact absurd (show fre (R r) n (orM (R r) n q) (orX (R r) n q) = true from by
      rcases orX_s (R := R r) (n := n) (p := q) with ⟨e1, _⟩ | ⟨_, e2, _⟩
      · omega
      · exact e2) (by rw [h0 _ (by omega)]; decide)
  | succ m ih =>
    intro i hi h0
    have hk : i < n := by omega
    have e0 : fre (R r) n (orM (R r) n q) i = (!(MB 58 i) && alb (fun k => MB 58 k || !((R r) k i)) n) := by
      rw [← fre_c h58 hk]
      rfl
    refine zz_iload dL_isOrder_27 rfl ?_
    refine zz_iload_n dL_isOrder_29 rfl ?_
    refine zz_icmp_ge (tgt := 59) dL_isOrder_30 (by decide) (fun h => absurd h (nI_ge (by omega) (by omega))) (fun _ => ?_)
    refine zz_aload dL_isOrder_33 rfl ?_
    refine zz_iload dL_isOrder_35 rfl ?_
    refine zl_q8 dL_isOrder_37 hk2 (by omega) ?_
    refine zz_if_ne (tgt := 53) dL_isOrder_38 (by decide) (fun h38 => ?_) (fun h38 => ?_)
    · refine zz_iinc (v := nI (i + 1)) dL_isOrder_53 rfl (nI_1 i) (by decide) ?_
      refine zz_goto (tgt := 27) dL_isOrder_56 (by decide) ?_
      refine zz_lvl (lv2 := [(8, .int (nI (i + 1))), (7, .int (nI q)), (6, .int (nI x)), (0, .ref 52), (1, .int (nI r)), (2, .int (nI n)), (3, .ref 54), (4, .ref 58), (5, .ref 59)]) ⟨rfl, rfl, rfl, rfl, rfl, rfl, rfl, rfl, rfl, trivial⟩ ?_
      refine ih (i + 1) (by omega) (fun k hk3 => ?_)
      by_cases q9 : k = i
      · subst q9
        rw [e0]
        first | (simp only [zB_0.mp h50, Bool.and_false]; done) | (simp only [zB_n.mp h38, Bool.not_true, Bool.false_and]; done)
      · exact h0 k (by omega)
    · refine zz_aload_n dL_isOrder_41 rfl ?_
      refine zz_iload_n dL_isOrder_42 rfl ?_
      refine zz_iload dL_isOrder_43 rfl ?_
      refine zz_aload dL_isOrder_45 rfl ?_
      refine zz_callS1 (c_isFree (X := R r) (by rw [hp54]; exact hgr) hn hk2 hk) dL_isOrder_47 zw_m_L_153 wYL_isFree wDL_isFree rfl (Nat.le_of_ble_eq_true rfl) (by decide) rfl ?_
      refine zz_if_ne (tgt := 59) dL_isOrder_50 (by decide) (fun h50 => ?_) (fun h50 => ?_)
      · have e1 := nx_free h0 (by simp only [e0, zB_0.mp h38, zB_n.mp h50, Bool.not_false, Bool.and_true]) hk
        subst e1
        refine zz_lvl (lv2 := [(8, .int (nI (orX (R r) n q))), (7, .int (nI q)), (6, .int (nI x)), (0, .ref 52), (1, .int (nI r)), (2, .int (nI n)), (3, .ref 54), (4, .ref 58), (5, .ref 59)]) ⟨rfl, rfl, rfl, rfl, rfl, rfl, rfl, rfl, rfl, trivial⟩ ?_
        exact K
      · refine zz_iinc (v := nI (i + 1)) dL_isOrder_53 rfl (nI_1 i) (by decide) ?_
        refine zz_goto (tgt := 27) dL_isOrder_56 (by decide) ?_
        refine zz_lvl (lv2 := [(8, .int (nI (i + 1))), (7, .int (nI q)), (6, .int (nI x)), (0, .ref 52), (1, .int (nI r)), (2, .int (nI n)), (3, .ref 54), (4, .ref 58), (5, .ref 59)]) ⟨rfl, rfl, rfl, rfl, rfl, rfl, rfl, rfl, rfl, trivial⟩ ?_
        refine ih (i + 1) (by omega) (fun k hk3 => ?_)
        by_cases q9 : k = i
        · subst q9
          rw [e0]
          first | (simp only [zB_0.mp h50, Bool.and_false]; done) | (simp only [zB_n.mp h38, Bool.not_true, Bool.false_and]; done)
        · exact h0 k (by omega)
theorem isE_nn {n : Nat} (hn : n ≤ 80) : isE n (nI n) = false := by
  unfold isE
  have h : ¬ nI n ≤ nI n - 1 := by
    intro q
    cases n with
    | zero => exact absurd q (by decide)
    | succ n =>
      rw [nI_pred] at q
      exact nI_ge (by omega) (by omega) q
  rw [decide_eq_false h, Bool.and_false]
set_option maxHeartbeats 1000000 in
set_option maxRecDepth 20000 in
theorem or_18 {r : Nat} (hr : r < 4) (ho : orN (R r) n = n) (hg0 : ¬ rng1 (R r) n) (hn : n ≤ 80) (h1n : 1 ≤ n) (hk2 : zz_k T = 2) {MB0 : Nat → Nat → Bool} (hgr : gr n (MB0 54) (R r)) : ∀ (m i : Nat), i + m = n → ∀ (x : Nat) (El : Nat → Int32) (Lo Hi : Nat → Nat → Int64) (BL BH : Nat → Int64) (Od : Nat → Nat → Int32) (Ls : Nat → Int32) (MB : Nat → Nat → Bool) (nu : Nat → Int32), cI n El Lo Hi BL BH R mk → dI (R r) n (orM (R r) n i) nu → mI (R r) n (orM (R r) n i) x → (∀ e, e < n → MB 58 e = orM (R r) n i e) → (∀ p, p < 57 → MB p = MB0 p) → x ≤ n → zz_E mL_isOrder none 10 (m + 2) (6 * m + 12) (fun o τ => ∃ MB2 nu2, (∀ p, p < 57 → MB2 p = MB0 p) ∧ xQ n R mk (pl MB2 rho nu2 T) (.inl (some (.int 1))) o τ) 18 [(7, .int (nI i)), (6, .int (nI x)), (0, .ref 52), (1, .int (nI r)), (2, .int (nI n)), (3, .ref 54), (4, .ref 58), (5, .ref 59)] [] (px El Lo Hi BL BH Od Ls (nI n) (pl MB rho nu T)) := by
  intro m
  induction m with
  | zero =>
    intro i hi x El Lo Hi BL BH Od Ls MB nu hI hd hm h58 hp hxn
    have hk : n = i := by omega
    subst hk
    have hl := dI_e h1n ho hd hm
    refine zz_iload dL_isOrder_18 rfl ?_
    refine zz_iload_n dL_isOrder_20 rfl ?_
    refine zz_icmp_ge (tgt := 153) dL_isOrder_21 (by decide) (fun _ => ?_) (fun h => absurd (nI_le (Nat.le_refl _) (by omega)) h)
    refine zz_aload_n dL_isOrder_153 rfl ?_
    refine zz_iconst (v := 2) dL_isOrder_154 (by decide) ?_
    refine zz_iload_n dL_isOrder_155 rfl ?_
    refine zz_iload_n dL_isOrder_156 rfl ?_
    refine zz_iconst (v := 0) dL_isOrder_157 (by decide) ?_
    refine zz_callSH rfl (dxIO_orderAt px_x (nI r) (nI n) 0 (x_orderAt_2 hr hn (isE_nn hn))) dL_isOrder_158 zw_m_L_72 wYL_done wDL_done rfl (Nat.le_of_ble_eq_true rfl) (by decide) (by omega) (by omega) rfl ?_ (fun E τ hE => by cases hE.1)
    rintro v1 τ1 ⟨hv1, rfl⟩
    cases hv1
    refine zz_iconst (v := (-1)) dL_isOrder_161 (by decide) ?_
    refine zz_icmp_ne (tgt := 182) dL_isOrder_162 (by decide) (fun h => absurd rfl h) (fun _ => ?_)
    refine zz_aload_n dL_isOrder_165 rfl ?_
    refine zz_iconst (v := 3) dL_isOrder_166 (by decide) ?_
    refine zz_iload_n dL_isOrder_167 rfl ?_
    refine zz_iconst (v := 0) dL_isOrder_168 (by decide) ?_
    refine zz_iconst (v := 0) dL_isOrder_169 (by decide) ?_
    refine zz_callSH rfl (d_longestWalk px_x (nI r) 0 0 (x_longestWalk_v hr hg0 hI) (Q := fun o τ => ∃ z, z ≤ n ∧ lwS (R r) n z ∧ xQ n R mk (pl MB rho nu T) (.inl (some (.int (nI z)))) o τ) (fun v τ h => by obtain ⟨z, hz, hl, he, hs⟩ := h; exact ⟨_, Sum.inl.inj he, z, hz, hl, rfl, hs⟩) (fun E τ h => by obtain ⟨z, hz, hl, he, hs⟩ := h; cases he)) dL_isOrder_170 zw_m_L_72 wYL_done wDL_done rfl (Nat.le_of_ble_eq_true rfl) (by decide) (by omega) (by omega) rfl ?_ (fun E τ h => by obtain ⟨z, hz, hl, he, hs⟩ := h; cases he)
    rintro v2 τ2 ⟨z, hz, hlz, hv2, El2, Lo2, Hi2, BL2, BH2, Od2, Ls2, hI2, rfl⟩
    cases hv2
    have ez := lwS_u hlz hl
    subst ez
    refine zz_iload dL_isOrder_173 rfl ?_
    refine zz_icmp_ne (tgt := 182) dL_isOrder_175 (by decide) (fun h => absurd rfl h) (fun _ => ?_)
    refine zz_iconst (v := 1) dL_isOrder_178 (by decide) ?_
    refine zz_goto (tgt := 183) dL_isOrder_179 (by decide) ?_
    refine zz_zret dL_isOrder_183 rfl (by first | rfl | exact zB_nar _) ?_
    exact ⟨MB, nu, hp, xQ_i rfl hI2⟩
  | succ m ih =>
    intro i hi x El Lo Hi BL BH Od Ls MB nu hI hd hm h58 hp hxn
    have hk : i < n := by omega
    have hq : orX (R r) n i < n := orN_n ho i hk
    have hf : fre (R r) n (orM (R r) n i) (orX (R r) n i) = true := by
      rcases orX_s (R := R r) (n := n) (p := i) with ⟨e1, _⟩ | ⟨_, e2, _⟩
      · omega
      · exact e2
    refine zz_iload dL_isOrder_18 rfl ?_
    refine zz_iload_n dL_isOrder_20 rfl ?_
    refine zz_icmp_ge (tgt := 153) dL_isOrder_21 (by decide) (fun h => absurd h (nI_ge (by omega) (by omega))) (fun _ => ?_)
    refine zz_iconst (v := 0) dL_isOrder_24 (by decide) ?_
    refine zz_istore dL_isOrder_25 (by decide) ?_
    refine zz_lvl (lv2 := [(8, .int (nI 0)), (7, .int (nI i)), (6, .int (nI x)), (0, .ref 52), (1, .int (nI r)), (2, .int (nI n)), (3, .ref 54), (4, .ref 58), (5, .ref 59)]) ⟨rfl, rfl, rfl, rfl, rfl, rfl, rfl, rfl, rfl, trivial⟩ ?_
    refine or_27 hr ho hg0 hn h1n hk2 hgr hq h58 (hp 54 (by omega)) _ _ ?_ n 0 (by omega) (fun k h => absurd h (by omega))
    refine zz_iload dL_isOrder_59 rfl ?_
    refine zz_iload_n dL_isOrder_61 rfl ?_
    refine zz_icmp_eq (tgt := 79) dL_isOrder_62 (by decide) (fun h => absurd ((nI_eq (by omega) (by omega)).mp h) (by omega)) (fun _ => ?_)
    refine zz_aload_n dL_isOrder_65 rfl ?_
    refine zz_iconst (v := 2) dL_isOrder_66 (by decide) ?_
    refine zz_iload_n dL_isOrder_67 rfl ?_
    refine zz_iload dL_isOrder_68 rfl ?_
    refine zz_iconst (v := 0) dL_isOrder_70 (by decide) ?_
    refine zz_callSH rfl (dv_orderAt px_x (nI r) (nI i) 0 (x_orderAt_v hr hk ho hI)) dL_isOrder_71 zw_m_L_72 wYL_done wDL_done rfl (Nat.le_of_ble_eq_true rfl) (by decide) (by omega) (by omega) rfl ?_ (fun E τ hE => by cases hE.1)
    rintro v1 τ1 ⟨hv1, El1, Lo1, Hi1, BL1, BH1, Od1, Ls1, hI1, rfl⟩
    cases hv1
    refine zz_iload dL_isOrder_74 rfl ?_
    refine zz_icmp_eq (tgt := 81) dL_isOrder_76 (by decide) (fun _ => ?_) (fun h => absurd rfl h)
    refine zz_aload dL_isOrder_81 rfl ?_
    refine zz_iload dL_isOrder_83 rfl ?_
    refine zz_iconst (v := 1) dL_isOrder_85 (by decide) ?_
    refine zs_q8 (b := true) dL_isOrder_86 hk2 (by omega) ?_
    refine zz_iconst (v := 0) dL_isOrder_87 (by decide) ?_
    refine zz_istore dL_isOrder_88 (by decide) ?_
    refine zz_lvl (lv2 := [(9, .int (nI 0)), (8, .int (nI (orX (R r) n i))), (7, .int (nI i)), (6, .int (nI x)), (0, .ref 52), (1, .int (nI r)), (2, .int (nI n)), (3, .ref 54), (4, .ref 58), (5, .ref 59)]) ⟨rfl, rfl, rfl, rfl, rfl, rfl, rfl, rfl, rfl, rfl, trivial⟩ ?_
    refine or_90 hr ho hg0 hn h1n hk2 hgr (MB := va_up MB 58 (va_up (MB 58) (orX (R r) n i) true)) hq (nu0 := nu) (fun k hk3 hk4 => (hd k hk3).1 hk4) hf (by rw [up_ne _ _ (by omega)]; exact hp 54 (by omega)) _ _ (fun c nu3 hkI h1c h2c => ?_) n 0 (by omega) 0 nu kI_0 ((hd _ hq).2 (fre_0 hf)) (fun _ _ => rfl)
    have hdp := kI_n hkI hf (fun k hk3 hk4 => by obtain ⟨D, _, hD⟩ := (hd k hk3).1 hk4; exact ⟨D, hD⟩)
    have hcn := dp_lt hg0 hq hdp.1
    have hxn : x ≤ n := hxn
    refine zz_iload dL_isOrder_135 rfl ?_
    refine zz_aload dL_isOrder_137 rfl ?_
    refine zz_iload dL_isOrder_139 rfl ?_
    first | refine zl_r dL_isOrder_141 ?_ | refine zl_q9 dL_isOrder_141 hk2 (by omega) ?_
    rw [h1c]
    refine zz_max dL_isOrder_142 zw_m_L_157 (by omega) (Nat.le_of_ble_eq_true rfl) ?_
    refine zz_tope (y := nI (max x c)) (nI_mx (by omega) (by omega)) ?_
    refine zz_istore dL_isOrder_145 (by decide) ?_
    refine zz_iinc (v := nI (i + 1)) dL_isOrder_147 rfl (nI_1 i) (by decide) ?_
    refine zz_goto (tgt := 18) dL_isOrder_150 (by decide) ?_
    refine zz_less (rc1 := m + 2) (rz1 := 6 * m + 12) (by omega) (by omega) ?_
    refine zz_lvl (lv2 := [(7, .int (nI (i + 1))), (6, .int (nI (max x c))), (0, .ref 52), (1, .int (nI r)), (2, .int (nI n)), (3, .ref 54), (4, .ref 58), (5, .ref 59)]) ⟨rfl, rfl, rfl, rfl, rfl, rfl, rfl, rfl, trivial⟩ ?_
    refine ih (i + 1) (by omega) (max x c) _ _ _ _ _ _ _ _ nu3 hI1 (dI_s hd hdp h1c h2c) (mI_s hq hm hdp) (fun e he => ?_) (fun p hp9 => ?_) (by omega)
    · rw [up_at, orM_s]
      unfold va_up
      split
      · rfl
      · exact h58 e he
    · rw [up_ne _ _ (by omega)]; exact hp p hp9
end ZYO
