section ZYB4
variable {El : Nat → Int32} {Lo Hi : Nat → Nat → Int64} {BL BH : Nat → Int64} {Od : Nat → Nat → Int32} {Ls : Nat → Int32} {n : Nat} {R : Nat → Nat → Nat → Bool} {mk : Nat → Bool} {MB : Nat → Nat → Bool} {rho nu : Nat → Int32} {T : zz_St}
set_option maxHeartbeats 1000000 in
set_option maxRecDepth 20000 in
theorem like_k {q w : Nat} (hq : 54 ≤ q ∧ q < 57) (hw : 54 ≤ w ∧ w < 57) (hn : n ≤ 80) (hab : ∀ i k, i < n → k < n → MB q (80 * i + k) = MB w (80 * i + k)) {a : Nat} (ha : a < n) (rc rz : Nat) (K : zz_E mL_isLike none 0 rc rz (fun o τ => o = .inl (some (.int 1)) ∧ τ = px El Lo Hi BL BH Od Ls (nI n) (pl MB rho nu T)) 45 [(3, .int (nI a)), (0, .ref q), (1, .ref w), (2, .int (nI n))] [] (px El Lo Hi BL BH Od Ls (nI n) (pl MB rho nu T))) : ∀ (m i : Nat), i + m = n → zz_E mL_isLike none 0 rc rz (fun o τ => o = .inl (some (.int 1)) ∧ τ = px El Lo Hi BL BH Od Ls (nI n) (pl MB rho nu T)) 10 [(4, .int (nI i)), (3, .int (nI a)), (0, .ref q), (1, .ref w), (2, .int (nI n))] [] (px El Lo Hi BL BH Od Ls (nI n) (pl MB rho nu T)) := by
  intro m
  induction m with
  | zero =>
    intro i hi
    have hk : n = i := by omega
    subst hk
    refine zz_iload dL_isLike_10 rfl ?_
    refine zz_iload_n dL_isLike_12 rfl ?_
    refine zz_icmp_ge (tgt := 45) dL_isLike_13 (by decide) (fun _ => ?_) (fun h => absurd (nI_le (Nat.le_refl _) (by omega)) h)
    refine zz_lvl (lv2 := [(3, .int (nI a)), (0, .ref q), (1, .ref w), (2, .int (nI n))]) ⟨rfl, rfl, rfl, rfl, trivial⟩ ?_
    exact K
  | succ m ih =>
    intro i hi
    have hk : i < n := by omega
    refine zz_iload dL_isLike_10 rfl ?_
    refine zz_iload_n dL_isLike_12 rfl ?_
    refine zz_icmp_ge (tgt := 45) dL_isLike_13 (by decide) (fun h => absurd h (nI_ge (by omega) (by omega))) (fun _ => ?_)
    refine zz_aload_n dL_isLike_16 rfl ?_
    refine zz_bipush (v := 80) dL_isLike_17 (by decide) ?_
    refine zz_iload_n dL_isLike_19 rfl ?_
    refine zz_imul dL_isLike_20 ?_
    refine zz_iload dL_isLike_21 rfl ?_
    refine zz_iadd dL_isLike_23 ?_
    refine zz_tope (y := nI (80 * a + i)) (by simp only [i80, i81, pk_mul, nI_add, nI_1]) ?_
    refine zl_qb dL_isLike_24 (by omega) (by omega) ?_
    refine zz_aload_n dL_isLike_25 rfl ?_
    refine zz_bipush (v := 80) dL_isLike_26 (by decide) ?_
    refine zz_iload_n dL_isLike_28 rfl ?_
    refine zz_imul dL_isLike_29 ?_
    refine zz_iload dL_isLike_30 rfl ?_
    refine zz_iadd dL_isLike_32 ?_
    refine zz_tope (y := nI (80 * a + i)) (by simp only [i80, i81, pk_mul, nI_add, nI_1]) ?_
    refine zl_qb dL_isLike_33 (by omega) (by omega) ?_
    refine zz_icmp_eq (tgt := 39) dL_isLike_34 (by decide) (fun _ => ?_) (fun h => absurd (by rw [hab a i ha hk]) h)
    refine zz_iinc (v := nI (i + 1)) dL_isLike_39 rfl (nI_1 i) (by decide) ?_
    refine zz_goto (tgt := 10) dL_isLike_42 (by decide) ?_
    refine zz_lvl (lv2 := [(4, .int (nI (i + 1))), (3, .int (nI a)), (0, .ref q), (1, .ref w), (2, .int (nI n))]) ⟨rfl, rfl, rfl, rfl, rfl, trivial⟩ ?_
    exact ih (i + 1) (by omega)
set_option maxHeartbeats 1000000 in
set_option maxRecDepth 20000 in
theorem like_i {q w : Nat} (hq : 54 ≤ q ∧ q < 57) (hw : 54 ≤ w ∧ w < 57) (hn : n ≤ 80) (hab : ∀ i k, i < n → k < n → MB q (80 * i + k) = MB w (80 * i + k)) : ∀ (m i : Nat), i + m = n → zz_E mL_isLike none 0 0 0 (fun o τ => o = .inl (some (.int 1)) ∧ τ = px El Lo Hi BL BH Od Ls (nI n) (pl MB rho nu T)) 2 [(3, .int (nI i)), (0, .ref q), (1, .ref w), (2, .int (nI n))] [] (px El Lo Hi BL BH Od Ls (nI n) (pl MB rho nu T)) := by
  intro m
  induction m with
  | zero =>
    intro i hi
    have hk : n = i := by omega
    subst hk
    refine zz_iload_n dL_isLike_2 rfl ?_
    refine zz_iload_n dL_isLike_3 rfl ?_
    refine zz_icmp_ge (tgt := 51) dL_isLike_4 (by decide) (fun _ => ?_) (fun h => absurd (nI_le (Nat.le_refl _) (by omega)) h)
    refine zz_iconst (v := 1) dL_isLike_51 (by decide) ?_
    refine zz_zret dL_isLike_52 rfl (by first | rfl | exact zB_nar _) ?_
    exact ⟨rfl, rfl⟩
  | succ m ih =>
    intro i hi
    have hk : i < n := by omega
    refine zz_iload_n dL_isLike_2 rfl ?_
    refine zz_iload_n dL_isLike_3 rfl ?_
    refine zz_icmp_ge (tgt := 51) dL_isLike_4 (by decide) (fun h => absurd h (nI_ge (by omega) (by omega))) (fun _ => ?_)
    refine zz_iconst (v := 0) dL_isLike_7 (by decide) ?_
    refine zz_istore dL_isLike_8 (by decide) ?_
    refine zz_lvl (lv2 := [(4, .int (nI 0)), (3, .int (nI i)), (0, .ref q), (1, .ref w), (2, .int (nI n))]) ⟨rfl, rfl, rfl, rfl, rfl, trivial⟩ ?_
    refine like_k hq hw hn hab hk _ _ ?_ n 0 (by omega)
    refine zz_iinc (v := nI (i + 1)) dL_isLike_45 rfl (nI_1 i) (by decide) ?_
    refine zz_goto (tgt := 2) dL_isLike_48 (by decide) ?_
    refine zz_lvl (lv2 := [(3, .int (nI (i + 1))), (0, .ref q), (1, .ref w), (2, .int (nI n))]) ⟨rfl, rfl, rfl, rfl, trivial⟩ ?_
    exact ih (i + 1) (by omega)
set_option maxHeartbeats 1000000 in
set_option maxRecDepth 20000 in
theorem k_isLike {q w : Nat} (hq : 54 ≤ q ∧ q < 57) (hw : 54 ≤ w ∧ w < 57) (hn : n ≤ 80) (hab : ∀ i k, i < n → k < n → MB q (80 * i + k) = MB w (80 * i + k)) : zz_C mL_isLike 0 0 0 [.ref q, .ref w, .int (nI n)] (px El Lo Hi BL BH Od Ls (nI n) (pl MB rho nu T)) (fun o τ => o = .inl (some (.int 1)) ∧ τ = px El Lo Hi BL BH Od Ls (nI n) (pl MB rho nu T)) := by
  · refine zz_start wPL_isLike rfl rfl (Nat.le_of_ble_eq_true rfl) ?_
    refine zz_iconst (v := 0) dL_isLike_0 (by decide) ?_
    refine zz_istore_n dL_isLike_1 (by decide) ?_
    refine zz_lvl (lv2 := [(3, .int (nI 0)), (0, .ref q), (1, .ref w), (2, .int (nI n))]) ⟨rfl, rfl, rfl, rfl, trivial⟩ ?_
    exact like_i hq hw hn hab n 0 (by omega)
end ZYB4
