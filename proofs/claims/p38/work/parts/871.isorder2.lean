section ZYO2
variable {El : Nat → Int32} {Lo Hi : Nat → Nat → Int64} {BL BH : Nat → Int64} {Od : Nat → Nat → Int32} {Ls : Nat → Int32} {n : Nat} {R : Nat → Nat → Nat → Bool} {mk : Nat → Bool} {MB : Nat → Nat → Bool} {rho nu : Nat → Int32} {T : zz_St}
set_option maxHeartbeats 1000000 in
set_option maxRecDepth 20000 in
theorem c_isOrder {r : Nat} (hr : r < 4) (hg0 : ¬ rng1 (R r) n) (hk0 : zz_k T = 0) (hgr : gr n (MB 54) (R r)) (hI : cI n El Lo Hi BL BH R mk) : zz_C mL_isOrder 10 84 652 [.ref 52, .int (nI r), .int (nI n), .ref 54] (px El Lo Hi BL BH Od Ls (nI n) (pl MB rho nu T)) (fun o τ => ∃ MB2 nu2, (∀ p, p < 57 → MB2 p = MB p) ∧ xQ n R mk (pl MB2 rho nu2 T) (.inl (some (.int 1))) o τ) := by
  have hn := cI_n hI
  have h1n := cI_1 hI
  refine zz_start wPL_isOrder rfl rfl (Nat.le_of_ble_eq_true rfl) ?_
  refine zz_bipush (v := 80) dL_isOrder_0 (by decide) ?_
  refine zz_newg (M := mL_isOrder) (pc := 2) (j := 0) (t := 2) (σ := px El Lo Hi BL BH Od Ls (nI n) (pl MB rho nu T)) (σ2 := px El Lo Hi BL BH Od Ls (nI n) (pl (va_up MB 58 (fun _ => false)) rho nu (va_up T 60 (.inl (0, 1, .inl (fun _ => 0)))))) (atype := .boolean) (n := 80) (rc := 84) (rz := 652) (st := []) (N' := 80) (ty := .boolean) (a0 := (80, .inl (fun _ => 0))) (Q2 := fun o τ => ∃ MB2 nu2, (∀ p, p < 57 → MB2 p = MB p) ∧ xQ n R mk (pl MB2 rho nu2 (va_up T 60 (.inl (0, 1, .inl (fun _ => 0))))) (.inl (some (.int 1))) o τ) (by decide) (pq_k.trans hk0) rfl zw_a_boolean rfl (fun _ => rfl) (fun _ _ h9 => h9) (fun _ => rfl) (by decide) (by decide) (Nat.le_of_ble_eq_true rfl) (by omega) (by omega) (fun _ _ => rfl) ?_ ?_ (fun v hv => by cases hv) ?_ dL_isOrder_2 ?_
  · exact fun ad ad' G cA H k he hk9 h9 => px_at he (fun p _ h2 => up_ne _ _ (by omega)) hk9 h9
  · intro q hq
    simp only [lv_args, List.mem_cons, List.not_mem_nil, or_false] at hq
    rcases hq with rfl | rfl | rfl | rfl <;> intro x hx <;> cases hx <;> decide
  · rintro o τ ⟨MB2, nu2, h1, h2, E3, L3, H3, B3, C3, O3, S3, h3, rfl⟩
    subst h2
    exact ⟨1, px E3 L3 H3 B3 C3 O3 S3 (nI n) (pl MB2 rho nu2 T), rfl, rfl, hk0, ⟨MB2, nu2, h1, xQ_i rfl h3⟩, fun ad ad' G cA H k he hk9 h9 => px_at he (fun _ _ _ => rfl) hk9 h9⟩
  refine zz_astore dL_isOrder_4 (by decide) ?_
  refine zz_lvl (lv2 := [(4, .ref 58), (0, .ref 52), (1, .int (nI r)), (2, .int (nI n)), (3, .ref 54)]) ⟨rfl, rfl, rfl, rfl, rfl, trivial⟩ ?_
  refine zz_bipush (v := 80) dL_isOrder_6 (by decide) ?_
  refine zz_newg (M := mL_isOrder) (pc := 8) (j := 1) (t := 0) (σ := px El Lo Hi BL BH Od Ls (nI n) (pl (va_up MB 58 (fun _ => false)) rho nu (va_up T 60 (.inl (0, 1, .inl (fun _ => 0)))))) (σ2 := px El Lo Hi BL BH Od Ls (nI n) (pl (va_up MB 58 (fun _ => false)) rho (fun _ => 0) (va_up (va_up T 60 (.inl (0, 1, .inl (fun _ => 0)))) 60 (.inl (0, 2, .inl (fun _ => 0)))))) (atype := .int) (n := 80) (rc := 84 - 1) (rz := 652 - 80) (st := []) (N' := 80) (ty := .int) (a0 := (80, .inl (fun _ => 0))) (Q2 := fun o τ => ∃ MB2 nu2, (∀ p, p < 57 → MB2 p = MB p) ∧ xQ n R mk (pl MB2 rho nu2 (va_up (va_up T 60 (.inl (0, 1, .inl (fun _ => 0)))) 60 (.inl (0, 2, .inl (fun _ => 0))))) (.inl (some (.int 1))) o τ) (by decide) rfl rfl zw_a_int rfl (fun _ => rfl) (fun _ _ h9 => h9) (fun _ => rfl) (by decide) (by decide) (Nat.le_of_ble_eq_true rfl) (by omega) (by omega) (fun _ _ => rfl) ?_ ?_ (fun v hv => by cases hv) ?_ dL_isOrder_8 ?_
  · intro ad ad' G cA H k he hk9 h9
    by_cases e9 : k = 58
    · subst e9
      have h9' : H[ad 58]? = some (vp_cell (cA 2) (80, .inl (fun i => zB (va_up MB 58 (fun _ => false) 58 i)))) := h9
      show H[ad' 58]? = some (vp_cell (cA 2) (80, .inl (fun i => zB (va_up MB 58 (fun _ => false) 58 i))))
      rw [he 58 (by omega)]
      exact h9'
    · exact px_at (fun q hq => he q (by omega)) (fun _ _ _ => rfl) (by omega) h9
  · intro q hq
    simp only [List.mem_cons, List.not_mem_nil, or_false] at hq
    rcases hq with rfl | rfl | rfl | rfl | rfl <;> intro x hx <;> cases hx <;> decide
  · rintro o τ ⟨MB2, nu2, h1, h2, E3, L3, H3, B3, C3, O3, S3, h3, rfl⟩
    subst h2
    refine ⟨1, px E3 L3 H3 B3 C3 O3 S3 (nI n) (pl MB2 rho nu2 (va_up T 60 (.inl (0, 1, .inl (fun _ => 0))))), rfl, rfl, rfl, ⟨MB2, nu2, h1, xQ_i rfl h3⟩, ?_⟩
    intro ad ad' G cA H k he hk9 h9
    by_cases e9 : k = 58
    · subst e9
      have h9' : H[ad 58]? = some (vp_cell (cA 2) (80, .inl (fun i => zB (MB2 58 i)))) := h9
      show H[ad' 58]? = some (vp_cell (cA 2) (80, .inl (fun i => zB (MB2 58 i))))
      rw [he 58 (by omega)]
      exact h9'
    · exact px_at (fun q hq => he q (by omega)) (fun _ _ _ => rfl) (by omega) h9
  refine zz_astore dL_isOrder_10 (by decide) ?_
  refine zz_iconst (v := 0) dL_isOrder_12 (by decide) ?_
  refine zz_istore dL_isOrder_13 (by decide) ?_
  refine zz_iconst (v := 0) dL_isOrder_15 (by decide) ?_
  refine zz_istore dL_isOrder_16 (by decide) ?_
  refine zz_less (rc1 := n + 2) (rz1 := 6 * n + 12) (by omega) (by omega) ?_
  refine zz_lvl (lv2 := [(7, .int (nI 0)), (6, .int (nI 0)), (0, .ref 52), (1, .int (nI r)), (2, .int (nI n)), (3, .ref 54), (4, .ref 58), (5, .ref 59)]) ⟨rfl, rfl, rfl, rfl, rfl, rfl, rfl, rfl, trivial⟩ ?_
  exact or_18 hr (or_ring.mpr hg0) hg0 hn h1n rfl (MB0 := MB) hgr n 0 (by omega) 0 _ _ _ _ _ _ _ _ _ hI dI_0 mI_0 (fun e _ => by rw [up_at]; rfl) (fun p hp => up_ne _ _ (by omega)) (Nat.zero_le n)
end ZYO2
