section ZYB
variable {El : Nat → Int32} {Lo Hi : Nat → Nat → Int64} {BL BH : Nat → Int64} {Od : Nat → Nat → Int32} {Ls : Nat → Int32} {n : Nat} {R : Nat → Nat → Nat → Bool} {mk : Nat → Bool} {MB : Nat → Nat → Bool} {rho nu : Nat → Int32} {T : zz_St}
theorem nx_lt (x : Int32) : x.toBitVec.toNat / 512 < 8388608 := by
  have hx := x.toBitVec.isLt
  omega
theorem nI_a0 (x : Int32) : x + 0 = x := Int32.add_zero x
set_option maxHeartbeats 1000000 in
set_option maxRecDepth 20000 in
theorem c_next  : zz_C mL_next 0 0 0 [.ref 57] (px El Lo Hi BL BH Od Ls (nI n) (pl MB rho nu T)) (fun o τ => ∃ (m : Nat) (r : Nat → Int32), m < 8388608 ∧ o = .inl (some (.int (nI m))) ∧ τ = px El Lo Hi BL BH Od Ls (nI n) (pl MB r nu T)) := by
  · refine zz_start wPL_next rfl rfl (Nat.le_of_ble_eq_true rfl) ?_
    refine zz_aload_n dL_next_0 rfl ?_
    refine zz_iconst (v := 0) dL_next_1 (by decide) ?_
    refine zz_aload_n dL_next_2 rfl ?_
    refine zz_iconst (v := 0) dL_next_3 (by decide) ?_
    first | refine zl_r dL_next_4 ?_ | refine zl_q9 dL_next_4 hk2 (by omega) ?_
    refine zz_ldc dL_next_5 zw_k_L_7 ?_
    refine zz_imul dL_next_7 ?_
    refine zz_sipush (v := 12345) dL_next_8 (by decide) ?_
    refine zz_iadd dL_next_11 ?_
    first | refine zs_r dL_next_12 ?_ | refine zs_q9 dL_next_12 hk2 (by omega) ?_
    refine zz_aload_n dL_next_13 rfl ?_
    refine zz_iconst (v := 0) dL_next_14 (by decide) ?_
    refine zz_dup2 dL_next_15 rfl rfl ?_
    first | refine zl_r dL_next_16 ?_ | refine zl_q9 dL_next_16 hk2 (by omega) ?_
    refine zz_aload_n dL_next_17 rfl ?_
    refine zz_iconst (v := 0) dL_next_18 (by decide) ?_
    first | refine zl_r dL_next_19 ?_ | refine zl_q9 dL_next_19 hk2 (by omega) ?_
    refine zz_bipush (v := 15) dL_next_20 (by decide) ?_
    refine zz_iushr dL_next_22 rfl ?_
    refine zz_ixor dL_next_23 ?_
    first | refine zs_r dL_next_24 ?_ | refine zs_q9 dL_next_24 hk2 (by omega) ?_
    refine zz_aload_n dL_next_25 rfl ?_
    refine zz_iconst (v := 0) dL_next_26 (by decide) ?_
    first | refine zl_r dL_next_27 ?_ | refine zl_q9 dL_next_27 hk2 (by omega) ?_
    refine zz_bipush (v := 9) dL_next_28 (by decide) ?_
    refine zz_iushr dL_next_30 (us9 _) ?_
    refine zz_iret dL_next_31 rfl ?_
    exact ⟨_, _, nx_lt _, rfl, rfl⟩
set_option maxHeartbeats 1000000 in
set_option maxRecDepth 20000 in
theorem c_from {lo hi : Nat} (hlo : lo ≤ hi) (hhi : hi ≤ 100) : zz_C mL_from 1 0 0 [.ref 57, .int (nI lo), .int (nI hi)] (px El Lo Hi BL BH Od Ls (nI n) (pl MB rho nu T)) (fun o τ => ∃ (v : Nat) (r : Nat → Int32), (lo ≤ v ∧ v ≤ hi) ∧ o = .inl (some (.int (nI v))) ∧ τ = px El Lo Hi BL BH Od Ls (nI n) (pl MB r nu T)) := by
  · refine zz_start wPL_from rfl rfl (Nat.le_of_ble_eq_true rfl) ?_
    refine zz_iload_n dL_from_0 rfl ?_
    refine zz_aload_n dL_from_1 rfl ?_
    refine zz_callS (c_next) dL_from_2 zw_m_L_8 wYL_next wDL_next rfl (Nat.le_of_ble_eq_true rfl) (by decide) (by omega) (by omega) rfl ?_ (fun E τ hE => by obtain ⟨_, _, _, hE, _⟩ := hE; cases hE)
    rintro v1 τ1 ⟨m1, rho1, hm1, hv1, rfl⟩
    cases hv1
    refine zz_iload_n dL_from_5 rfl ?_
    refine zz_iload_n dL_from_6 rfl ?_
    refine zz_isub dL_from_7 ?_
    refine zz_iconst (v := 1) dL_from_8 (by decide) ?_
    refine zz_iadd dL_from_9 ?_
    refine zz_tope (y := nI (hi - lo + 1)) (by rw [pk_sub hlo, nI_1]) ?_
    refine zz_irem dL_from_10 (nI_ne0 (by omega) (by omega)) ?_
    refine zz_tope (y := nI (m1 % (hi - lo + 1))) (pk_rem (by omega) (by omega) (by omega)) ?_
    refine zz_iadd dL_from_11 ?_
    refine zz_iret dL_from_12 rfl ?_
    rw [nI_add]
    have hq := Nat.mod_lt m1 (show 0 < hi - lo + 1 by omega)
    exact ⟨lo + m1 % (hi - lo + 1), rho1, ⟨by omega, by omega⟩, rfl, rfl⟩
theorem sb1 (x : Int64) {k : Nat} (hk : k < 64) : ((x.toUInt64 >>> ((nI k).toInt64.toUInt64 &&& Int64.toUInt64 63)).toInt64 &&& 1) = if x.toBitVec.getLsbD k = true then 1 else 0 := by
  obtain ⟨m, hm, rfl⟩ := wb_of x
  have h0 := ts_bit (w := lN m) (s := (nI k).toInt64.toUInt64 &&& Int64.toUInt64 63) hk (by rw [wb_cu k hk]; exact u_tn1 k hk)
  rw [wb_bit hm hk] at h0 ⊢
  rcases Nat.mod_two_eq_zero_or_one (m / 2 ^ k) with h | h
  · rw [h] at h0 ⊢
    rw [h0.mp rfl]
    rfl
  · rw [h] at h0 ⊢
    cases e : (lN m).toBitVec.getLsbD k with
    | true => rfl
    | false => exact absurd (h0.mpr e) (by decide)
theorem zz_b1 {M : zz_M} {sc : Option (Nat × (Nat → Int32))} {d rc rz : Nat} {Q : zz_Q} {pc : Nat} {lv : List (Nat × Value)} {st : List Value} {σ : zz_St} {y : Int64} {b : Bool} (hy : y &&& 1 = if b = true then 1 else 0)
    (d0 : decode M.2.1 pc = .ok (.lconst 1, 1)) (d1 : decode M.2.1 (pc + 1) = .ok (.land, 1)) (d2 : decode M.2.1 (pc + 2) = .ok (.lconst 1, 1)) (d3 : decode M.2.1 (pc + 3) = .ok (.lcmp, 1)) (d4 : decode M.2.1 (pc + 4) = .ok (.ifCond .ne 7, 3)) (d7 : decode M.2.1 (pc + 7) = .ok (.iconst 1, 1)) (d8 : decode M.2.1 (pc + 8) = .ok (.goto 4, 3)) (d11 : decode M.2.1 (pc + 11) = .ok (.iconst 0, 1))
    (K : zz_E M sc d rc rz Q (pc + 12) lv (.int (zB b) :: st) σ) : zz_E M sc d rc rz Q pc lv (.long y :: st) σ := by
  refine zz_lconst (v := 1) d0 (by decide) ?_
  refine zz_land d1 ?_
  refine zz_lconst (v := 1) d2 (by decide) ?_
  refine zz_lcmp d3 ?_
  rw [hy]
  cases b with
  | true =>
    refine zz_if_ne (tgt := pc + 11) d4 (by omega) (fun h => absurd (by decide) h) (fun _ => ?_)
    refine zz_iconst (v := 1) d7 (by decide) ?_
    exact zz_goto (tgt := pc + 12) d8 (by omega) K
  | false =>
    refine zz_if_ne (tgt := pc + 11) d4 (by omega) (fun _ => ?_) (fun h => absurd h (by decide))
    exact zz_iconst (v := 0) d11 (by decide) K
/-- rows below i, and of row i what lies below k -/
def grp (n : Nat) (f : Nat → Bool) (X : Nat → Nat → Bool) (i k : Nat) : Prop := ∀ a c, a < n → c < n → (a < i ∨ (a = i ∧ c < k)) → f (80 * a + c) = X a c
theorem grp_0 (n : Nat) (f : Nat → Bool) (X : Nat → Nat → Bool) : grp n f X 0 0 := fun a c _ _ h => by omega
theorem grp_n {n : Nat} {f : Nat → Bool} {X : Nat → Nat → Bool} (h : grp n f X n 0) : gr n f X := fun a c ha hc => h a c ha hc (by omega)
theorem grp_r {n : Nat} {f : Nat → Bool} {X : Nat → Nat → Bool} {i : Nat} (h : grp n f X i n) : grp n f X (i + 1) 0 := fun a c ha hc q => h a c ha hc (by omega)
theorem grp_s {n : Nat} {f : Nat → Bool} {X : Nat → Nat → Bool} {i k : Nat} (hn : n ≤ 80) (hi : i < n) (hk : k < n) (h : grp n f X i k) : grp n (va_up f (80 * i + k) (X i k)) X i (k + 1) := fun a c ha hc q => by
  by_cases e : a = i ∧ c = k
  · obtain ⟨rfl, rfl⟩ := e
    rw [up_at]
  · rw [up_ne _ _ (fun q => e (gx (by omega) (by omega) q))]
    exact h a c ha hc (by omega)
theorem sm_s (g : Nat → Nat) (i : Nat) : sm g (i + 1) = sm g i + g i := rfl
theorem see_lo {R : Nat → Nat → Bool} {n i k : Nat} (hk : k < 64) (hkn : k < n) : ((wrd (fun k => decide (64 * 0 + k < n) && R i (64 * 0 + k)) 64).toUInt64 >>> ((nI k).toInt64.toUInt64 &&& Int64.toUInt64 63)).toInt64 &&& 1 = if R i k = true then 1 else 0 := by
  rw [sb1 _ hk, wrd_bit _ 64 (Nat.le_refl _) k hk]
  simp only [Nat.mul_zero, Nat.zero_add, decide_eq_true hk, decide_eq_true hkn, Bool.true_and]
theorem see_hi {R : Nat → Nat → Bool} {n i k : Nat} (h64 : 64 ≤ k) (hkn : k < n) (hn : n ≤ 80) : ((wrd (fun k => decide (64 * 1 + k < n) && R i (64 * 1 + k)) 64).toUInt64 >>> ((nI (k - 64)).toInt64.toUInt64 &&& Int64.toUInt64 63)).toInt64 &&& 1 = if R i k = true then 1 else 0 := by
  rw [sb1 _ (show k - 64 < 64 by omega), wrd_bit _ 64 (Nat.le_refl _) (k - 64) (by omega)]
  simp only [Nat.mul_one, show 64 + (k - 64) = k by omega, decide_eq_true (show k - 64 < 64 by omega), decide_eq_true hkn, Bool.true_and]
set_option maxHeartbeats 1000000 in
set_option maxRecDepth 20000 in
theorem sees_k {r q : Nat} (hr : r < 4) (hq : 54 ≤ q ∧ q < 57) {MB0 : Nat → Nat → Bool} {a : Nat} (ha : a < n) (hn : n ≤ 80) (rc rz : Nat) (K : ∀ MB, grp n (MB q) (R r) (a + 1) 0 → (∀ p, p ≠ q → MB p = MB0 p) → zz_E mL_sees none 8 rc rz (fun o τ => ∃ MB2, gr n (MB2 q) (R r) ∧ (∀ p, p ≠ q → MB2 p = MB0 p) ∧ xQ n R mk (pl MB2 rho nu T) (.inl (some (.int (nI (sm (fun j => cnt (R r j) n) n))))) o τ) 115 [(10, .int (nI n)), (8, .long (wrd (fun k => decide (64 * 1 + k < n) && R r a (64 * 1 + k)) 64)), (6, .long (wrd (fun k => decide (64 * 0 + k < n) && R r a (64 * 0 + k)) 64)), (5, .int (nI a)), (4, .int (nI (sm (fun j => cnt (R r j) n) a + cnt (R r a) n))), (0, .ref 52), (1, .int (nI r)), (2, .int (nI n)), (3, .ref q)] [] (px El Lo Hi BL BH Od Ls (nI n) (pl MB rho nu T))) : ∀ (m i : Nat), i + m = n → ∀ MB, grp n (MB q) (R r) a i → (∀ p, p ≠ q → MB p = MB0 p) → zz_E mL_sees none 8 rc rz (fun o τ => ∃ MB2, gr n (MB2 q) (R r) ∧ (∀ p, p ≠ q → MB2 p = MB0 p) ∧ xQ n R mk (pl MB2 rho nu T) (.inl (some (.int (nI (sm (fun j => cnt (R r j) n) n))))) o τ) 35 [(10, .int (nI i)), (8, .long (wrd (fun k => decide (64 * 1 + k < n) && R r a (64 * 1 + k)) 64)), (6, .long (wrd (fun k => decide (64 * 0 + k < n) && R r a (64 * 0 + k)) 64)), (5, .int (nI a)), (4, .int (nI (sm (fun j => cnt (R r j) n) a + cnt (R r a) i))), (0, .ref 52), (1, .int (nI r)), (2, .int (nI n)), (3, .ref q)] [] (px El Lo Hi BL BH Od Ls (nI n) (pl MB rho nu T)) := by
  intro m
  induction m with
  | zero =>
    intro i hi MB hg hp
    have hk : i = n := by omega
    subst hk
    refine zz_iload dL_sees_35 rfl ?_
    refine zz_iload_n dL_sees_37 rfl ?_
    refine zz_icmp_ge (tgt := 115) dL_sees_38 (by decide) (fun _ => ?_) (fun h => absurd (nI_le (Nat.le_refl _) (by omega)) h)
    exact K MB (grp_r hg) hp
  | succ m ih =>
    intro i hi MB hg hp
    have hk : i < n := by omega
    refine zz_iload dL_sees_35 rfl ?_
    refine zz_iload_n dL_sees_37 rfl ?_
    refine zz_icmp_ge (tgt := 115) dL_sees_38 (by decide) (fun h => absurd h (nI_ge (by omega) (by omega))) (fun _ => ?_)
    refine zz_aload_n dL_sees_41 rfl ?_
    refine zz_bipush (v := 80) dL_sees_42 (by decide) ?_
    refine zz_iload dL_sees_44 rfl ?_
    refine zz_imul dL_sees_46 ?_
    refine zz_iload dL_sees_47 rfl ?_
    refine zz_iadd dL_sees_49 ?_
    refine zz_tope (y := nI (80 * a + i)) (by simp only [i80, i81, pk_mul, nI_add, nI_1]) ?_
    refine zz_iload dL_sees_50 rfl ?_
    refine zz_bipush (v := 64) dL_sees_52 (by decide) ?_
    refine zz_icmp_ge (tgt := 65) dL_sees_54 (by decide) (fun h54 => ?_) (fun h54 => ?_)
    · have h64 : 64 ≤ i := (nI_leI (a := 64) (by omega) (by omega)).mp h54
      refine zz_lload dL_sees_65 rfl ?_
      refine zz_iload dL_sees_67 rfl ?_
      refine zz_bipush (v := 64) dL_sees_69 (by decide) ?_
      refine zz_isub dL_sees_71 ?_
      refine zz_tope (y := nI (i - 64)) (nI_m64 i h64 (by omega)) ?_
      refine zz_lushr dL_sees_72 rfl ?_
      refine zz_b1 (b := R r a i) (by first | exact see_lo h64 (by omega) | exact see_hi h64 (by omega) hn) dL_sees_73 dL_sees_74 dL_sees_75 dL_sees_76 dL_sees_77 dL_sees_80 dL_sees_81 dL_sees_84 ?_
      refine zs_qb dL_sees_85 (by omega) (by omega) ?_
      refine zz_iload dL_sees_86 rfl ?_
      refine zz_aload_n dL_sees_88 rfl ?_
      refine zz_bipush (v := 80) dL_sees_89 (by decide) ?_
      refine zz_iload dL_sees_91 rfl ?_
      refine zz_imul dL_sees_93 ?_
      refine zz_iload dL_sees_94 rfl ?_
      refine zz_iadd dL_sees_96 ?_
      refine zz_tope (y := nI (80 * a + i)) (by simp only [i80, i81, pk_mul, nI_add, nI_1]) ?_
      refine zl_qb dL_sees_97 (by omega) (by omega) ?_
      simp only [up_at]
      refine zz_if_eq (tgt := 105) dL_sees_98 (by decide) (fun h98 => ?_) (fun h98 => ?_)
      · refine zz_iconst (v := 0) dL_sees_105 (by decide) ?_
        refine zz_iadd dL_sees_106 ?_
        refine zz_tope (y := nI (sm (fun j => cnt (R r j) n) a + cnt (R r a) (i + 1))) (by first | (rw [cnt_st (zB_n.mp h98), ← Nat.add_assoc, nI_1]) | (rw [cnt_sf (zB_0.mp h98), nI_a0])) ?_
        refine zz_istore dL_sees_107 (by decide) ?_
        refine zz_iinc (v := nI (i + 1)) dL_sees_109 rfl (nI_1 i) (by decide) ?_
        refine zz_goto (tgt := 35) dL_sees_112 (by decide) ?_
        refine zz_lvl (lv2 := [(10, .int (nI (i + 1))), (8, .long (wrd (fun k => decide (64 * 1 + k < n) && R r a (64 * 1 + k)) 64)), (6, .long (wrd (fun k => decide (64 * 0 + k < n) && R r a (64 * 0 + k)) 64)), (5, .int (nI a)), (4, .int (nI (sm (fun j => cnt (R r j) n) a + cnt (R r a) (i + 1)))), (0, .ref 52), (1, .int (nI r)), (2, .int (nI n)), (3, .ref q)]) ⟨rfl, rfl, rfl, rfl, rfl, rfl, rfl, rfl, rfl, trivial⟩ ?_
        exact ih (i + 1) (by omega) _ (by rw [up_at]; exact grp_s hn ha hk hg) (fun p hpq => (up_ne _ _ hpq).trans (hp p hpq))
      · refine zz_iconst (v := 1) dL_sees_101 (by decide) ?_
        refine zz_goto (tgt := 106) dL_sees_102 (by decide) ?_
        refine zz_iadd dL_sees_106 ?_
        refine zz_tope (y := nI (sm (fun j => cnt (R r j) n) a + cnt (R r a) (i + 1))) (by first | (rw [cnt_st (zB_n.mp h98), ← Nat.add_assoc, nI_1]) | (rw [cnt_sf (zB_0.mp h98), nI_a0])) ?_
        refine zz_istore dL_sees_107 (by decide) ?_
        refine zz_iinc (v := nI (i + 1)) dL_sees_109 rfl (nI_1 i) (by decide) ?_
        refine zz_goto (tgt := 35) dL_sees_112 (by decide) ?_
        refine zz_lvl (lv2 := [(10, .int (nI (i + 1))), (8, .long (wrd (fun k => decide (64 * 1 + k < n) && R r a (64 * 1 + k)) 64)), (6, .long (wrd (fun k => decide (64 * 0 + k < n) && R r a (64 * 0 + k)) 64)), (5, .int (nI a)), (4, .int (nI (sm (fun j => cnt (R r j) n) a + cnt (R r a) (i + 1)))), (0, .ref 52), (1, .int (nI r)), (2, .int (nI n)), (3, .ref q)]) ⟨rfl, rfl, rfl, rfl, rfl, rfl, rfl, rfl, rfl, trivial⟩ ?_
        exact ih (i + 1) (by omega) _ (by rw [up_at]; exact grp_s hn ha hk hg) (fun p hpq => (up_ne _ _ hpq).trans (hp p hpq))
    · have h64 : i < 64 := Nat.lt_of_not_le (fun q => h54 (nI_le (a := 64) q (by omega)))
      refine zz_lload dL_sees_57 rfl ?_
      refine zz_iload dL_sees_59 rfl ?_
      refine zz_lushr dL_sees_61 rfl ?_
      refine zz_goto (tgt := 73) dL_sees_62 (by decide) ?_
      refine zz_b1 (b := R r a i) (by first | exact see_lo h64 (by omega) | exact see_hi h64 (by omega) hn) dL_sees_73 dL_sees_74 dL_sees_75 dL_sees_76 dL_sees_77 dL_sees_80 dL_sees_81 dL_sees_84 ?_
      refine zs_qb dL_sees_85 (by omega) (by omega) ?_
      refine zz_iload dL_sees_86 rfl ?_
      refine zz_aload_n dL_sees_88 rfl ?_
      refine zz_bipush (v := 80) dL_sees_89 (by decide) ?_
      refine zz_iload dL_sees_91 rfl ?_
      refine zz_imul dL_sees_93 ?_
      refine zz_iload dL_sees_94 rfl ?_
      refine zz_iadd dL_sees_96 ?_
      refine zz_tope (y := nI (80 * a + i)) (by simp only [i80, i81, pk_mul, nI_add, nI_1]) ?_
      refine zl_qb dL_sees_97 (by omega) (by omega) ?_
      simp only [up_at]
      refine zz_if_eq (tgt := 105) dL_sees_98 (by decide) (fun h98 => ?_) (fun h98 => ?_)
      · refine zz_iconst (v := 0) dL_sees_105 (by decide) ?_
        refine zz_iadd dL_sees_106 ?_
        refine zz_tope (y := nI (sm (fun j => cnt (R r j) n) a + cnt (R r a) (i + 1))) (by first | (rw [cnt_st (zB_n.mp h98), ← Nat.add_assoc, nI_1]) | (rw [cnt_sf (zB_0.mp h98), nI_a0])) ?_
        refine zz_istore dL_sees_107 (by decide) ?_
        refine zz_iinc (v := nI (i + 1)) dL_sees_109 rfl (nI_1 i) (by decide) ?_
        refine zz_goto (tgt := 35) dL_sees_112 (by decide) ?_
        refine zz_lvl (lv2 := [(10, .int (nI (i + 1))), (8, .long (wrd (fun k => decide (64 * 1 + k < n) && R r a (64 * 1 + k)) 64)), (6, .long (wrd (fun k => decide (64 * 0 + k < n) && R r a (64 * 0 + k)) 64)), (5, .int (nI a)), (4, .int (nI (sm (fun j => cnt (R r j) n) a + cnt (R r a) (i + 1)))), (0, .ref 52), (1, .int (nI r)), (2, .int (nI n)), (3, .ref q)]) ⟨rfl, rfl, rfl, rfl, rfl, rfl, rfl, rfl, rfl, trivial⟩ ?_
        exact ih (i + 1) (by omega) _ (by rw [up_at]; exact grp_s hn ha hk hg) (fun p hpq => (up_ne _ _ hpq).trans (hp p hpq))
      · refine zz_iconst (v := 1) dL_sees_101 (by decide) ?_
        refine zz_goto (tgt := 106) dL_sees_102 (by decide) ?_
        refine zz_iadd dL_sees_106 ?_
        refine zz_tope (y := nI (sm (fun j => cnt (R r j) n) a + cnt (R r a) (i + 1))) (by first | (rw [cnt_st (zB_n.mp h98), ← Nat.add_assoc, nI_1]) | (rw [cnt_sf (zB_0.mp h98), nI_a0])) ?_
        refine zz_istore dL_sees_107 (by decide) ?_
        refine zz_iinc (v := nI (i + 1)) dL_sees_109 rfl (nI_1 i) (by decide) ?_
        refine zz_goto (tgt := 35) dL_sees_112 (by decide) ?_
        refine zz_lvl (lv2 := [(10, .int (nI (i + 1))), (8, .long (wrd (fun k => decide (64 * 1 + k < n) && R r a (64 * 1 + k)) 64)), (6, .long (wrd (fun k => decide (64 * 0 + k < n) && R r a (64 * 0 + k)) 64)), (5, .int (nI a)), (4, .int (nI (sm (fun j => cnt (R r j) n) a + cnt (R r a) (i + 1)))), (0, .ref 52), (1, .int (nI r)), (2, .int (nI n)), (3, .ref q)]) ⟨rfl, rfl, rfl, rfl, rfl, rfl, rfl, rfl, rfl, trivial⟩ ?_
        exact ih (i + 1) (by omega) _ (by rw [up_at]; exact grp_s hn ha hk hg) (fun p hpq => (up_ne _ _ hpq).trans (hp p hpq))
set_option maxHeartbeats 1000000 in
set_option maxRecDepth 20000 in
theorem sees_i {r q : Nat} (hr : r < 4) (hq : 54 ≤ q ∧ q < 57) {MB0 : Nat → Nat → Bool} (hn : n ≤ 80) : ∀ (m i : Nat), i + m = n → ∀ (El : Nat → Int32) (Lo Hi : Nat → Nat → Int64) (BL BH : Nat → Int64) (Od : Nat → Nat → Int32) (Ls : Nat → Int32), cI n El Lo Hi BL BH R mk → ∀ MB, grp n (MB q) (R r) i 0 → (∀ p, p ≠ q → MB p = MB0 p) → zz_E mL_sees none 8 (2 * m) (12 * m) (fun o τ => ∃ MB2, gr n (MB2 q) (R r) ∧ (∀ p, p ≠ q → MB2 p = MB0 p) ∧ xQ n R mk (pl MB2 rho nu T) (.inl (some (.int (nI (sm (fun j => cnt (R r j) n) n))))) o τ) 6 [(5, .int (nI i)), (4, .int (nI (sm (fun j => cnt (R r j) n) i))), (0, .ref 52), (1, .int (nI r)), (2, .int (nI n)), (3, .ref q)] [] (px El Lo Hi BL BH Od Ls (nI n) (pl MB rho nu T)) := by
  intro m
  induction m with
  | zero =>
    intro i hi El Lo Hi BL BH Od Ls hI MB hg hp
    have hk : i = n := by omega
    subst hk
    refine zz_iload dL_sees_6 rfl ?_
    refine zz_iload_n dL_sees_8 rfl ?_
    refine zz_icmp_ge (tgt := 121) dL_sees_9 (by decide) (fun _ => ?_) (fun h => absurd (nI_le (Nat.le_refl _) (by omega)) h)
    refine zz_iload dL_sees_121 rfl ?_
    refine zz_iret dL_sees_123 rfl ?_
    exact ⟨MB, grp_n hg, hp, xQ_i rfl hI⟩
  | succ m ih =>
    intro i hi El Lo Hi BL BH Od Ls hI MB hg hp
    have hk : i < n := by omega
    refine zz_iload dL_sees_6 rfl ?_
    refine zz_iload_n dL_sees_8 rfl ?_
    refine zz_icmp_ge (tgt := 121) dL_sees_9 (by decide) (fun h => absurd h (nI_ge (by omega) (by omega))) (fun _ => ?_)
    refine zz_aload_n dL_sees_12 rfl ?_
    refine zz_iload_n dL_sees_13 rfl ?_
    refine zz_iload dL_sees_14 rfl ?_
    refine zz_iconst (v := 0) dL_sees_16 (by decide) ?_
    refine zz_callV (ci := 4) (x_wordOf_v (w := 0) hr hk (by omega) hI) dL_sees_17 zw_m_L_63 wYX4_wordOf wDX4_wordOf rfl (by omega) px_x rfl (Nat.le_of_ble_eq_true rfl) (by decide) (by omega) (by omega) rfl ?_ (fun E τ hE => by cases hE.1)
    rintro v1 τ1 ⟨hv1, El1, Lo1, Hi1, BL1, BH1, Od1, Ls1, hI1, rfl⟩
    cases hv1
    refine zz_lstore dL_sees_20 (by decide) ?_
    refine zz_aload_n dL_sees_22 rfl ?_
    refine zz_iload_n dL_sees_23 rfl ?_
    refine zz_iload dL_sees_24 rfl ?_
    refine zz_iconst (v := 1) dL_sees_26 (by decide) ?_
    refine zz_callV (ci := 4) (x_wordOf_v (w := 1) hr hk (by omega) hI1) dL_sees_27 zw_m_L_63 wYX4_wordOf wDX4_wordOf rfl (by omega) px_x rfl (Nat.le_of_ble_eq_true rfl) (by decide) (by omega) (by omega) rfl ?_ (fun E τ hE => by cases hE.1)
    rintro v2 τ2 ⟨hv2, El2, Lo2, Hi2, BL2, BH2, Od2, Ls2, hI2, rfl⟩
    cases hv2
    refine zz_lstore dL_sees_30 (by decide) ?_
    refine zz_iconst (v := 0) dL_sees_32 (by decide) ?_
    refine zz_istore dL_sees_33 (by decide) ?_
    refine zz_lvl (lv2 := [(10, .int (nI 0)), (8, .long (wrd (fun k => decide (64 * 1 + k < n) && R r i (64 * 1 + k)) 64)), (6, .long (wrd (fun k => decide (64 * 0 + k < n) && R r i (64 * 0 + k)) 64)), (5, .int (nI i)), (4, .int (nI (sm (fun j => cnt (R r j) n) i + cnt (R r i) 0))), (0, .ref 52), (1, .int (nI r)), (2, .int (nI n)), (3, .ref q)]) ⟨rfl, rfl, rfl, rfl, rfl, rfl, rfl, rfl, rfl, trivial⟩ ?_
    refine sees_k hr hq (show i < n by omega) hn _ _ (fun MB2 hg2 hp2 => ?_) n 0 (by omega) MB hg hp
    refine zz_iinc (v := nI (i + 1)) dL_sees_115 rfl (nI_1 i) (by decide) ?_
    refine zz_goto (tgt := 6) dL_sees_118 (by decide) ?_
    refine zz_less (rc1 := 2 * m) (rz1 := 12 * m) (by omega) (by omega) ?_
    refine zz_lvl (lv2 := [(5, .int (nI (i + 1))), (4, .int (nI (sm (fun j => cnt (R r j) n) (i + 1)))), (0, .ref 52), (1, .int (nI r)), (2, .int (nI n)), (3, .ref q)]) ⟨rfl, rfl, rfl, rfl, rfl, rfl, trivial⟩ ?_
    exact ih (i + 1) (by omega) _ _ _ _ _ _ _ hI2 MB2 hg2 hp2
set_option maxHeartbeats 1000000 in
set_option maxRecDepth 20000 in
theorem c_sees {r q : Nat} (hr : r < 4) (hq : 54 ≤ q ∧ q < 57) (hI : cI n El Lo Hi BL BH R mk) : zz_C mL_sees 8 160 960 [.ref 52, .int (nI r), .int (nI n), .ref q] (px El Lo Hi BL BH Od Ls (nI n) (pl MB rho nu T)) (fun o τ => ∃ MB2, gr n (MB2 q) (R r) ∧ (∀ p, p ≠ q → MB2 p = MB p) ∧ xQ n R mk (pl MB2 rho nu T) (.inl (some (.int (nI (sm (fun j => cnt (R r j) n) n))))) o τ) := by
  have hn := cI_n hI
  · refine zz_start wPL_sees rfl rfl (Nat.le_of_ble_eq_true rfl) ?_
    refine zz_iconst (v := 0) dL_sees_0 (by decide) ?_
    refine zz_istore dL_sees_1 (by decide) ?_
    refine zz_iconst (v := 0) dL_sees_3 (by decide) ?_
    refine zz_istore dL_sees_4 (by decide) ?_
    refine zz_less (rc1 := 2 * n) (rz1 := 12 * n) (by omega) (by omega) ?_
    refine zz_lvl (lv2 := [(5, .int (nI 0)), (4, .int (nI (sm (fun j => cnt (R r j) n) 0))), (0, .ref 52), (1, .int (nI r)), (2, .int (nI n)), (3, .ref q)]) ⟨rfl, rfl, rfl, rfl, rfl, rfl, trivial⟩ ?_
    exact sees_i hr hq hn n 0 (by omega) _ _ _ _ _ _ _ hI MB (grp_0 n _ _) (fun _ _ => rfl)
set_option maxHeartbeats 1000000 in
set_option maxRecDepth 20000 in
theorem like_k {q w : Nat} (hq : 54 ≤ q ∧ q < 57) (hw : 54 ≤ w ∧ w < 57) (hn : n ≤ 80) (hab : ∀ i k, i < n → k < n → MB q (80 * i + k) = MB w (80 * i + k)) {a : Nat} (ha : a < n) (rc rz : Nat) (K : zz_E mL_isLike none 0 rc rz (fun o τ => o = .inl (some (.int 1)) ∧ τ = px El Lo Hi BL BH Od Ls (nI n) (pl MB rho nu T)) 45 [(3, .int (nI a)), (0, .ref q), (1, .ref w), (2, .int (nI n))] [] (px El Lo Hi BL BH Od Ls (nI n) (pl MB rho nu T))) : ∀ (m i : Nat), i + m = n → zz_E mL_isLike none 0 rc rz (fun o τ => o = .inl (some (.int 1)) ∧ τ = px El Lo Hi BL BH Od Ls (nI n) (pl MB rho nu T)) 10 [(4, .int (nI i)), (3, .int (nI a)), (0, .ref q), (1, .ref w), (2, .int (nI n))] [] (px El Lo Hi BL BH Od Ls (nI n) (pl MB rho nu T)) := by
  intro m
  induction m with
  | zero =>
    intro i hi
    have hk : i = n := by omega
    subst hk
    refine zz_iload dL_isLike_10 rfl ?_
    refine zz_iload_n dL_isLike_12 rfl ?_
    refine zz_icmp_ge (tgt := 45) dL_isLike_13 (by decide) (fun _ => ?_) (fun h => absurd (nI_le (Nat.le_refl _) (by omega)) h)
    refine zz_lvl (lv2 := [(3, .int (nI a)), (0, .ref q), (1, .ref w), (2, .int (nI n))]) ⟨rfl, rfl, rfl, rfl, trivial⟩ ?_
    exact K
  | succ m ih =>
    intro i hi
    have hk : i < n := by omega
    refine zz_iload dL_isLike_10 rfl ?_
    refine zz_iload_n dL_isLike_12 rfl ?_
    refine zz_icmp_ge (tgt := 45) dL_isLike_13 (by decide) (fun h => absurd h (nI_ge (by omega) (by omega))) (fun _ => ?_)
    refine zz_aload_n dL_isLike_16 rfl ?_
    refine zz_bipush (v := 80) dL_isLike_17 (by decide) ?_
    refine zz_iload_n dL_isLike_19 rfl ?_
    refine zz_imul dL_isLike_20 ?_
    refine zz_iload dL_isLike_21 rfl ?_
    refine zz_iadd dL_isLike_23 ?_
    refine zz_tope (y := nI (80 * a + i)) (by simp only [i80, i81, pk_mul, nI_add, nI_1]) ?_
    refine zl_qb dL_isLike_24 (by omega) (by omega) ?_
    refine zz_aload_n dL_isLike_25 rfl ?_
    refine zz_bipush (v := 80) dL_isLike_26 (by decide) ?_
    refine zz_iload_n dL_isLike_28 rfl ?_
    refine zz_imul dL_isLike_29 ?_
    refine zz_iload dL_isLike_30 rfl ?_
    refine zz_iadd dL_isLike_32 ?_
    refine zz_tope (y := nI (80 * a + i)) (by simp only [i80, i81, pk_mul, nI_add, nI_1]) ?_
    refine zl_qb dL_isLike_33 (by omega) (by omega) ?_
    refine zz_icmp_eq (tgt := 39) dL_isLike_34 (by decide) (fun _ => ?_) (fun h => absurd (by rw [hab a i ha hk]) h)
    refine zz_iinc (v := nI (i + 1)) dL_isLike_39 rfl (nI_1 i) (by decide) ?_
    refine zz_goto (tgt := 10) dL_isLike_42 (by decide) ?_
    refine zz_lvl (lv2 := [(4, .int (nI (i + 1))), (3, .int (nI a)), (0, .ref q), (1, .ref w), (2, .int (nI n))]) ⟨rfl, rfl, rfl, rfl, rfl, trivial⟩ ?_
    exact ih (i + 1) (by omega)
set_option maxHeartbeats 1000000 in
set_option maxRecDepth 20000 in
theorem like_i {q w : Nat} (hq : 54 ≤ q ∧ q < 57) (hw : 54 ≤ w ∧ w < 57) (hn : n ≤ 80) (hab : ∀ i k, i < n → k < n → MB q (80 * i + k) = MB w (80 * i + k)) : ∀ (m i : Nat), i + m = n → zz_E mL_isLike none 0 0 0 (fun o τ => o = .inl (some (.int 1)) ∧ τ = px El Lo Hi BL BH Od Ls (nI n) (pl MB rho nu T)) 2 [(3, .int (nI i)), (0, .ref q), (1, .ref w), (2, .int (nI n))] [] (px El Lo Hi BL BH Od Ls (nI n) (pl MB rho nu T)) := by
  intro m
  induction m with
  | zero =>
    intro i hi
    have hk : i = n := by omega
    subst hk
    refine zz_iload_n dL_isLike_2 rfl ?_
    refine zz_iload_n dL_isLike_3 rfl ?_
    refine zz_icmp_ge (tgt := 51) dL_isLike_4 (by decide) (fun _ => ?_) (fun h => absurd (nI_le (Nat.le_refl _) (by omega)) h)
    refine zz_iconst (v := 1) dL_isLike_51 (by decide) ?_
    refine zz_zret dL_isLike_52 rfl (by first | rfl | exact zB_nar _) ?_
    exact ⟨rfl, rfl⟩
  | succ m ih =>
    intro i hi
    have hk : i < n := by omega
    refine zz_iload_n dL_isLike_2 rfl ?_
    refine zz_iload_n dL_isLike_3 rfl ?_
    refine zz_icmp_ge (tgt := 51) dL_isLike_4 (by decide) (fun h => absurd h (nI_ge (by omega) (by omega))) (fun _ => ?_)
    refine zz_iconst (v := 0) dL_isLike_7 (by decide) ?_
    refine zz_istore dL_isLike_8 (by decide) ?_
    refine zz_lvl (lv2 := [(4, .int (nI 0)), (3, .int (nI i)), (0, .ref q), (1, .ref w), (2, .int (nI n))]) ⟨rfl, rfl, rfl, rfl, rfl, trivial⟩ ?_
    refine like_k hq hw hn hab hk _ _ ?_ n 0 (by omega)
    refine zz_iinc (v := nI (i + 1)) dL_isLike_45 rfl (nI_1 i) (by decide) ?_
    refine zz_goto (tgt := 2) dL_isLike_48 (by decide) ?_
    refine zz_lvl (lv2 := [(3, .int (nI (i + 1))), (0, .ref q), (1, .ref w), (2, .int (nI n))]) ⟨rfl, rfl, rfl, rfl, trivial⟩ ?_
    exact ih (i + 1) (by omega)
set_option maxHeartbeats 1000000 in
set_option maxRecDepth 20000 in
theorem c_isLike {q w : Nat} (hq : 54 ≤ q ∧ q < 57) (hw : 54 ≤ w ∧ w < 57) (hn : n ≤ 80) (hab : ∀ i k, i < n → k < n → MB q (80 * i + k) = MB w (80 * i + k)) : zz_C mL_isLike 0 0 0 [.ref q, .ref w, .int (nI n)] (px El Lo Hi BL BH Od Ls (nI n) (pl MB rho nu T)) (fun o τ => o = .inl (some (.int 1)) ∧ τ = px El Lo Hi BL BH Od Ls (nI n) (pl MB rho nu T)) := by
  · refine zz_start wPL_isLike rfl rfl (Nat.le_of_ble_eq_true rfl) ?_
    refine zz_iconst (v := 0) dL_isLike_0 (by decide) ?_
    refine zz_istore_n dL_isLike_1 (by decide) ?_
    refine zz_lvl (lv2 := [(3, .int (nI 0)), (0, .ref q), (1, .ref w), (2, .int (nI n))]) ⟨rfl, rfl, rfl, rfl, trivial⟩ ?_
    exact like_i hq hw hn hab n 0 (by omega)
theorem anb_at {f : Nat → Bool} {i n : Nat} (hi : i < n) (h : f i = true) : anb f n = true := anb_t.mpr ⟨i, hi, h⟩
set_option maxHeartbeats 1000000 in
set_option maxRecDepth 20000 in
theorem ring_i {q : Nat} (hq : 54 ≤ q ∧ q < 57) (hn : n ≤ 80) {A : Nat → Nat → Bool} (hg : gr n (MB q) A) : ∀ (m i : Nat), i + m = n → (∀ k, k < i → A k k = false) → zz_E mL_isRing none 0 0 0 (fun o τ => o = .inl (some (.int (zB (anb (fun k => A k k) n)))) ∧ τ = px El Lo Hi BL BH Od Ls (nI n) (pl MB rho nu T)) 2 [(2, .int (nI i)), (0, .ref q), (1, .int (nI n))] [] (px El Lo Hi BL BH Od Ls (nI n) (pl MB rho nu T)) := by
  intro m
  induction m with
  | zero =>
    intro i hi h0
    have hk : i = n := by omega
    subst hk
    rw [anb_f.mpr h0]
    refine zz_iload_n dL_isRing_2 rfl ?_
    refine zz_iload_n dL_isRing_3 rfl ?_
    refine zz_icmp_ge (tgt := 24) dL_isRing_4 (by decide) (fun _ => ?_) (fun h => absurd (nI_le (Nat.le_refl _) (by omega)) h)
    refine zz_iconst (v := 0) dL_isRing_24 (by decide) ?_
    refine zz_zret dL_isRing_25 rfl (by first | rfl | exact zB_nar _) ?_
    exact ⟨rfl, rfl⟩
  | succ m ih =>
    intro i hi h0
    have hk : i < n := by omega
    refine zz_iload_n dL_isRing_2 rfl ?_
    refine zz_iload_n dL_isRing_3 rfl ?_
    refine zz_icmp_ge (tgt := 24) dL_isRing_4 (by decide) (fun h => absurd h (nI_ge (by omega) (by omega))) (fun _ => ?_)
    refine zz_aload_n dL_isRing_7 rfl ?_
    refine zz_bipush (v := 81) dL_isRing_8 (by decide) ?_
    refine zz_iload_n dL_isRing_10 rfl ?_
    refine zz_imul dL_isRing_11 ?_
    refine zz_tope (y := nI (81 * i)) (by simp only [i80, i81, pk_mul, nI_add, nI_1]) ?_
    refine zl_qb dL_isRing_12 (by omega) (by omega) ?_
    rw [show 81 * i = 80 * i + i by omega, hg i i hk hk]
    refine zz_if_eq (tgt := 18) dL_isRing_13 (by decide) (fun h13 => ?_) (fun h13 => ?_)
    · refine zz_iinc (v := nI (i + 1)) dL_isRing_18 rfl (nI_1 i) (by decide) ?_
      refine zz_goto (tgt := 2) dL_isRing_21 (by decide) ?_
      refine zz_lvl (lv2 := [(2, .int (nI (i + 1))), (0, .ref q), (1, .int (nI n))]) ⟨rfl, rfl, rfl, trivial⟩ ?_
      exact ih (i + 1) (by omega) (fun k hk2 => by
        by_cases e : k = i
        · rw [e]; exact zB_0.mp h13
        · exact h0 k (by omega))
    · rw [anb_at (f := fun k => A k k) hk (zB_n.mp h13)]
      refine zz_iconst (v := 1) dL_isRing_16 (by decide) ?_
      refine zz_zret dL_isRing_17 rfl (by first | rfl | exact zB_nar _) ?_
      exact ⟨rfl, rfl⟩
set_option maxHeartbeats 1000000 in
set_option maxRecDepth 20000 in
theorem c_isRing {q : Nat} (hq : 54 ≤ q ∧ q < 57) (hn : n ≤ 80) {A : Nat → Nat → Bool} (hg : gr n (MB q) A) : zz_C mL_isRing 0 0 0 [.ref q, .int (nI n)] (px El Lo Hi BL BH Od Ls (nI n) (pl MB rho nu T)) (fun o τ => o = .inl (some (.int (zB (anb (fun k => A k k) n)))) ∧ τ = px El Lo Hi BL BH Od Ls (nI n) (pl MB rho nu T)) := by
  · refine zz_start wPL_isRing rfl rfl (Nat.le_of_ble_eq_true rfl) ?_
    refine zz_iconst (v := 0) dL_isRing_0 (by decide) ?_
    refine zz_istore_n dL_isRing_1 (by decide) ?_
    refine zz_lvl (lv2 := [(2, .int (nI 0)), (0, .ref q), (1, .int (nI n))]) ⟨rfl, rfl, rfl, trivial⟩ ?_
    exact ring_i hq hn hg n 0 (by omega) (fun k h => absurd h (by omega))
end ZYB
