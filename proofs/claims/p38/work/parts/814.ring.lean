section ZYB5
variable {El : Nat → Int32} {Lo Hi : Nat → Nat → Int64} {BL BH : Nat → Int64} {Od : Nat → Nat → Int32} {Ls : Nat → Int32} {n : Nat} {R : Nat → Nat → Nat → Bool} {mk : Nat → Bool} {MB : Nat → Nat → Bool} {rho nu : Nat → Int32} {T : zz_St}
theorem anb_at {f : Nat → Bool} {i n : Nat} (hi : i < n) (h : f i = true) : anb f n = true := anb_t.mpr ⟨i, hi, h⟩
set_option maxHeartbeats 1000000 in
set_option maxRecDepth 20000 in
theorem ring_i {q : Nat} (hq : 54 ≤ q ∧ q < 57) (hn : n ≤ 80) {A : Nat → Nat → Bool} (hg : gr n (MB q) A) : ∀ (m i : Nat), i + m = n → (∀ k, k < i → A k k = false) → zz_E mL_isRing none 0 0 0 (fun o τ => o = .inl (some (.int (zB (anb (fun k => A k k) n)))) ∧ τ = px El Lo Hi BL BH Od Ls (nI n) (pl MB rho nu T)) 2 [(2, .int (nI i)), (0, .ref q), (1, .int (nI n))] [] (px El Lo Hi BL BH Od Ls (nI n) (pl MB rho nu T)) := by
  intro m
  induction m with
  | zero =>
    intro i hi h0
    have hk : n = i := by omega
    subst hk
    rw [anb_f.mpr h0]
    refine zz_iload_n dL_isRing_2 rfl ?_
    refine zz_iload_n dL_isRing_3 rfl ?_
    refine zz_icmp_ge (tgt := 24) dL_isRing_4 (by decide) (fun _ => ?_) (fun h => absurd (nI_le (Nat.le_refl _) (by omega)) h)
    refine zz_iconst (v := 0) dL_isRing_24 (by decide) ?_
    refine zz_zret dL_isRing_25 rfl (by first | rfl | exact zB_nar _) ?_
    exact ⟨rfl, rfl⟩
  | succ m ih =>
    intro i hi h0
    have hk : i < n := by omega
    refine zz_iload_n dL_isRing_2 rfl ?_
    refine zz_iload_n dL_isRing_3 rfl ?_
    refine zz_icmp_ge (tgt := 24) dL_isRing_4 (by decide) (fun h => absurd h (nI_ge (by omega) (by omega))) (fun _ => ?_)
    refine zz_aload_n dL_isRing_7 rfl ?_
    refine zz_bipush (v := 81) dL_isRing_8 (by decide) ?_
    refine zz_iload_n dL_isRing_10 rfl ?_
    refine zz_imul dL_isRing_11 ?_
    refine zz_tope (y := nI (81 * i)) (by simp only [i80, i81, pk_mul, nI_add, nI_1]) ?_
    refine zl_qb dL_isRing_12 (by omega) (by omega) ?_
    rw [show 81 * i = 80 * i + i by omega, hg i i hk hk]
    refine zz_if_eq (tgt := 18) dL_isRing_13 (by decide) (fun h13 => ?_) (fun h13 => ?_)
    · refine zz_iinc (v := nI (i + 1)) dL_isRing_18 rfl (nI_1 i) (by decide) ?_
      refine zz_goto (tgt := 2) dL_isRing_21 (by decide) ?_
      refine zz_lvl (lv2 := [(2, .int (nI (i + 1))), (0, .ref q), (1, .int (nI n))]) ⟨rfl, rfl, rfl, trivial⟩ ?_
      exact ih (i + 1) (by omega) (fun k hk2 => by
        by_cases e : k = i
        · rw [e]; exact zB_0.mp h13
        · exact h0 k (by omega))
    · rw [anb_at (f := fun k => A k k) hk (zB_n.mp h13)]
      refine zz_iconst (v := 1) dL_isRing_16 (by decide) ?_
      refine zz_zret dL_isRing_17 rfl (by first | rfl | exact zB_nar _) ?_
      exact ⟨rfl, rfl⟩
set_option maxHeartbeats 1000000 in
set_option maxRecDepth 20000 in
theorem c_isRing {q : Nat} (hq : 54 ≤ q ∧ q < 57) (hn : n ≤ 80) {A : Nat → Nat → Bool} (hg : gr n (MB q) A) : zz_C mL_isRing 0 0 0 [.ref q, .int (nI n)] (px El Lo Hi BL BH Od Ls (nI n) (pl MB rho nu T)) (fun o τ => o = .inl (some (.int (zB (anb (fun k => A k k) n)))) ∧ τ = px El Lo Hi BL BH Od Ls (nI n) (pl MB rho nu T)) := by
  · refine zz_start wPL_isRing rfl rfl (Nat.le_of_ble_eq_true rfl) ?_
    refine zz_iconst (v := 0) dL_isRing_0 (by decide) ?_
    refine zz_istore_n dL_isRing_1 (by decide) ?_
    refine zz_lvl (lv2 := [(2, .int (nI 0)), (0, .ref q), (1, .int (nI n))]) ⟨rfl, rfl, rfl, trivial⟩ ?_
    exact ring_i hq hn hg n 0 (by omega) (fun k h => absurd h (by omega))
end ZYB5
