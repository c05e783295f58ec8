section ZYB
variable {El : Nat → Int32} {Lo Hi : Nat → Nat → Int64} {BL BH : Nat → Int64} {Od : Nat → Nat → Int32} {Ls : Nat → Int32} {n : Nat} {R : Nat → Nat → Nat → Bool} {mk : Nat → Bool} {MB : Nat → Nat → Bool} {rho nu : Nat → Int32} {T : zz_St}
theorem nx_lt (x : Int32) : x.toBitVec.toNat / 512 < 8388608 := by
  have hx := x.toBitVec.isLt
  omega
theorem nI_a0 (x : Int32) : x + 0 = x := Int32.add_zero x
set_option maxHeartbeats 1000000 in
set_option maxRecDepth 20000 in
theorem c_next  : zz_C mL_next 0 0 0 [.ref 57] (px El Lo Hi BL BH Od Ls (nI n) (pl MB rho nu T)) (fun o τ => ∃ (m : Nat) (r : Nat → Int32), m < 8388608 ∧ o = .inl (some (.int (nI m))) ∧ τ = px El Lo Hi BL BH Od Ls (nI n) (pl MB r nu T)) := by
  · refine zz_start wPL_next rfl rfl (Nat.le_of_ble_eq_true rfl) ?_
    refine zz_aload_n dL_next_0 rfl ?_
    refine zz_iconst (v := 0) dL_next_1 (by decide) ?_
    refine zz_aload_n dL_next_2 rfl ?_
    refine zz_iconst (v := 0) dL_next_3 (by decide) ?_
    first | refine zl_r dL_next_4 ?_ | refine zl_q9 dL_next_4 hk2 (by omega) ?_
    refine zz_ldc dL_next_5 zw_k_L_7 ?_
    refine zz_imul dL_next_7 ?_
    refine zz_sipush (v := 12345) dL_next_8 (by decide) ?_
    refine zz_iadd dL_next_11 ?_
    first | refine zs_r dL_next_12 ?_ | refine zs_q9 dL_next_12 hk2 (by omega) ?_
    refine zz_aload_n dL_next_13 rfl ?_
    refine zz_iconst (v := 0) dL_next_14 (by decide) ?_
    refine zz_dup2 dL_next_15 rfl rfl ?_
    first | refine zl_r dL_next_16 ?_ | refine zl_q9 dL_next_16 hk2 (by omega) ?_
    refine zz_aload_n dL_next_17 rfl ?_
    refine zz_iconst (v := 0) dL_next_18 (by decide) ?_
    first | refine zl_r dL_next_19 ?_ | refine zl_q9 dL_next_19 hk2 (by omega) ?_
    refine zz_bipush (v := 15) dL_next_20 (by decide) ?_
    refine zz_iushr dL_next_22 rfl ?_
    refine zz_ixor dL_next_23 ?_
    first | refine zs_r dL_next_24 ?_ | refine zs_q9 dL_next_24 hk2 (by omega) ?_
    refine zz_aload_n dL_next_25 rfl ?_
    refine zz_iconst (v := 0) dL_next_26 (by decide) ?_
    first | refine zl_r dL_next_27 ?_ | refine zl_q9 dL_next_27 hk2 (by omega) ?_
    refine zz_bipush (v := 9) dL_next_28 (by decide) ?_
    refine zz_iushr dL_next_30 (us9 _) ?_
    refine zz_iret dL_next_31 rfl ?_
    exact ⟨_, _, nx_lt _, rfl, rfl⟩
set_option maxHeartbeats 1000000 in
set_option maxRecDepth 20000 in
theorem c_from {lo hi : Nat} (hlo : lo ≤ hi) (hhi : hi ≤ 100) : zz_C mL_from 1 0 0 [.ref 57, .int (nI lo), .int (nI hi)] (px El Lo Hi BL BH Od Ls (nI n) (pl MB rho nu T)) (fun o τ => ∃ (v : Nat) (r : Nat → Int32), (lo ≤ v ∧ v ≤ hi) ∧ o = .inl (some (.int (nI v))) ∧ τ = px El Lo Hi BL BH Od Ls (nI n) (pl MB r nu T)) := by
  · refine zz_start wPL_from rfl rfl (Nat.le_of_ble_eq_true rfl) ?_
    refine zz_iload_n dL_from_0 rfl ?_
    refine zz_aload_n dL_from_1 rfl ?_
    refine zz_callS (c_next) dL_from_2 zw_m_L_8 wYL_next wDL_next rfl (Nat.le_of_ble_eq_true rfl) (by decide) (by omega) (by omega) rfl ?_ (fun E τ hE => by obtain ⟨_, _, _, hE, _⟩ := hE; cases hE)
    rintro v1 τ1 ⟨m1, rho1, hm1, hv1, rfl⟩
    cases hv1
    refine zz_iload_n dL_from_5 rfl ?_
    refine zz_iload_n dL_from_6 rfl ?_
    refine zz_isub dL_from_7 ?_
    refine zz_iconst (v := 1) dL_from_8 (by decide) ?_
    refine zz_iadd dL_from_9 ?_
    refine zz_tope (y := nI (hi - lo + 1)) (by rw [pk_sub hlo, nI_1]) ?_
    refine zz_irem dL_from_10 (nI_ne0 (by omega) (by omega)) ?_
    refine zz_tope (y := nI (m1 % (hi - lo + 1))) (pk_rem (by omega) (by omega) (by omega)) ?_
    refine zz_iadd dL_from_11 ?_
    refine zz_iret dL_from_12 rfl ?_
    rw [nI_add]
    have hq := Nat.mod_lt m1 (show 0 < hi - lo + 1 by omega)
    exact ⟨lo + m1 % (hi - lo + 1), rho1, ⟨by omega, by omega⟩, rfl, rfl⟩
end ZYB
