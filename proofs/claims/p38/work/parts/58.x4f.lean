section ZZX4F
variable {El : Nat → Int32} {Lo Hi : Nat → Nat → Int64} {BL BH : Nat → Int64} {Od : Nat → Nat → Int32} {Ls : Nat → Int32} {n : Nat} {R : Nat → Nat → Nat → Bool} {mk : Nat → Bool} {T : zz_St}
set_option maxHeartbeats 1000000 in
set_option maxRecDepth 20000 in
theorem t_one {r : Nat} (hr : r < 4) (hI : cI n El Lo Hi BL BH R mk) : zz_C mX2_wrongOfOne 7 0 0 [.ref 51, .ref r] (px El Lo Hi BL BH Od Ls (nI n) T) (xQ n R mk T (.inl (some (.int 0)))) := by
  have hn := cI_n hI
  have hA := clP_r hn (lk_cpy (L' := Lo 5) (H' := Hi 5) (cI_R hI hr))
  · refine zz_start wPX2_wrongOfOne rfl rfl (Nat.le_of_ble_eq_true rfl) ?_
    refine zz_aload_n dX2_wrongOfOne_0 rfl ?_
    refine zz_get (ci := 2) (j := 1) zz_inX2 rfl zw_f_X2_21 rfl (by decide) dX2_wrongOfOne_1 (by omega) px_th rfl ?_
    refine zz_aload_n dX2_wrongOfOne_4 rfl ?_
    refine zz_callV0 (ci := 1) (c_take (show 5 < 8 by omega) (show r < 8 by omega) (cI_E hI hr) hn) dX2_wrongOfOne_5 zw_m_X2_45 wYX1_take wDX1_take rfl (by omega) (px_rel (by omega)) rfl (Nat.le_of_ble_eq_true rfl) (by decide) rfl ?_
    refine zz_aload_n dX2_wrongOfOne_8 rfl ?_
    refine zz_get (ci := 2) (j := 1) zz_inX2 rfl zw_f_X2_21 rfl (by decide) dX2_wrongOfOne_9 (by omega) px_th rfl ?_
    refine zz_callV0 (ci := 1) (c_closeUp (show 5 < 8 by omega) (by rw [up_at]; exact cI_E hI hr) hn) dX2_wrongOfOne_12 zw_m_X2_49 wYX1_closeUp wDX1_closeUp rfl (by omega) (px_rel (by omega)) rfl (Nat.le_of_ble_eq_true rfl) (by decide) rfl ?_
    refine zz_aload_n dX2_wrongOfOne_15 rfl ?_
    refine zz_aload_n dX2_wrongOfOne_16 rfl ?_
    refine zz_callV (ci := 2) (c_ctw (r := r) (by omega) (by rw [up_ne _ _ (by omega)]; exact cI_E hI hr) hn (by simp only [up_ne _ _ (show r ≠ 5 by omega)]; exact lk_cln (cI_R hI hr))) dX2_wrongOfOne_17 zw_m_X2_52 wYX2_closureTellsWalks wDX2_closureTellsWalks rfl (by omega) px_th rfl (Nat.le_of_ble_eq_true rfl) (by decide) (by omega) (by omega) rfl ?_ (fun E τ hE => by cases hE.1)
    rintro v1 τ1 ⟨hv1, B1, C1, hB1, hC1, rfl⟩
    cases hv1
    simp only [up_at, up_up, up_ne _ _ (show r ≠ 5 by omega)]
    rw [t_ctw hn (cI_R hI hr) hA]
    refine zz_callS1 (c_wrongUnless true) dX2_wrongOfOne_20 zw_m_X2_56 wYX2_wrongUnless wDX2_wrongUnless rfl (Nat.le_of_ble_eq_true rfl) (by decide) rfl ?_
    refine zz_aload_n dX2_wrongOfOne_23 rfl ?_
    refine zz_callV (ci := 2) (c_cpe (by rw [up_at]; exact cI_E hI hr) hn) dX2_wrongOfOne_24 zw_m_X2_60 wYX2_classesPartElements wDX2_classesPartElements rfl (by omega) px_th rfl (Nat.le_of_ble_eq_true rfl) (by decide) (by omega) (by omega) rfl ?_ (fun E τ hE => by cases hE.1)
    rintro v2 τ2 ⟨hv2, S2, rfl⟩
    cases hv2
    simp only [up_at]
    rw [t_cpe hn hA]
    refine zz_callS1 (c_wrongUnless true) dX2_wrongOfOne_27 zw_m_X2_56 wYX2_wrongUnless wDX2_wrongUnless rfl (Nat.le_of_ble_eq_true rfl) (by decide) rfl ?_
    refine zz_iadd dX2_wrongOfOne_30 ?_
    refine zz_aload_n dX2_wrongOfOne_31 rfl ?_
    refine zz_aload_n dX2_wrongOfOne_32 rfl ?_
    refine zz_callV (ci := 2) (c_ok (r := r) (by omega) (by rw [up_ne _ _ (by omega)]; exact cI_E hI hr) hn (by simp only [up_ne _ _ (show r ≠ 5 by omega)]; exact lk_cln (cI_R hI hr)) (by rw [up_at]; exact cI_E hI hr)) dX2_wrongOfOne_33 zw_m_X2_64 wYX2_orderKeeps wDX2_orderKeeps rfl (by omega) px_th rfl (Nat.le_of_ble_eq_true rfl) (by decide) (by omega) (by omega) rfl ?_ (fun E τ hE => by cases hE.1)
    rintro v3 τ3 ⟨hv3, B3, C3, O3, hB3, hC3, hO3, rfl⟩
    cases hv3
    simp only [up_at, up_ne _ _ (show r ≠ 5 by omega)]
    rw [t_ok hn (cI_R hI hr) hA]
    refine zz_callS1 (c_wrongUnless true) dX2_wrongOfOne_36 zw_m_X2_56 wYX2_wrongUnless wDX2_wrongUnless rfl (Nat.le_of_ble_eq_true rfl) (by decide) rfl ?_
    refine zz_iadd dX2_wrongOfOne_39 ?_
    refine zz_aload_n dX2_wrongOfOne_40 rfl ?_
    refine zz_callV (ci := 2) (c_cg (by rw [up_at]; exact cI_E hI hr) hn (by rw [up_at, up_at]; exact lk_cln hA)) dX2_wrongOfOne_41 zw_m_X2_67 wYX2_coversGiveClosure wDX2_coversGiveClosure rfl (by omega) px_th rfl (Nat.le_of_ble_eq_true rfl) (by decide) (by omega) (by omega) rfl ?_ (fun E τ hE => by cases hE.1)
    rintro v4 τ4 ⟨hv4, E4, F4, G4, B4, C4, hE4, hF4, hG4, hB4, hC4, rfl⟩
    cases hv4
    simp only [up_at]
    rw [t_cg hn hA]
    refine zz_callS1 (c_wrongUnless true) dX2_wrongOfOne_44 zw_m_X2_56 wYX2_wrongUnless wDX2_wrongUnless rfl (Nat.le_of_ble_eq_true rfl) (by decide) rfl ?_
    refine zz_iadd dX2_wrongOfOne_47 ?_
    refine zz_iret dX2_wrongOfOne_48 rfl ?_
    exact xQ_i rfl (cI_f (cI_4 (q := 5) hI (by omega) (El r) _ _ ((hB3 32 (by omega)).trans (hB1 32 (by omega))) ((hC3 32 (by omega)).trans (hC1 32 (by omega)))) hE4 hF4 hG4 (hB4 32 (by omega)) (hC4 32 (by omega)))
set_option maxHeartbeats 1000000 in
set_option maxRecDepth 20000 in
theorem t_three (hI0 : cI n El Lo Hi BL BH R mk) : zz_C mX2_wrongOfThree 7 0 0 [.ref 51, .ref 0, .ref 1, .ref 2] (px El Lo Hi BL BH Od Ls (nI n) T) (xQ n R mk T (.inl (some (.int 0)))) := by
  have hn := cI_n hI0
  · refine zz_start wPX2_wrongOfThree rfl rfl (Nat.le_of_ble_eq_true rfl) ?_
    refine zz_aload_n dX2_wrongOfThree_0 rfl ?_
    refine zz_aload_n dX2_wrongOfThree_1 rfl ?_
    refine zz_aload_n dX2_wrongOfThree_2 rfl ?_
    refine zz_aload_n dX2_wrongOfThree_3 rfl ?_
    refine zz_callV (ci := 2) (c_isAssociative (a := 0) (b := 1) (c := 2) (by omega) (by omega) (by omega) hn (cI_E hI0 (by omega)) (cI_E hI0 (by omega)) (cI_E hI0 (by omega)) (lk_cln (cI_R hI0 (by omega))) (lk_cln (cI_R hI0 (by omega))) (lk_cln (cI_R hI0 (by omega)))) dX2_wrongOfThree_4 zw_m_X2_70 wYX2_isAssociative wDX2_isAssociative rfl (by omega) px_th rfl (Nat.le_of_ble_eq_true rfl) (by decide) (by omega) (by omega) rfl ?_ (fun E τ hE => by cases hE.1)
    rintro v01 τ01 ⟨hv01, E0, F0, G0, B0, C0, hE0, hF0, hG0, hB0, hC0, rfl⟩
    cases hv01
    have hI1 := cI_f hI0 hE0 hF0 hG0 (hB0 32 (by omega)) (hC0 32 (by omega))
    refine zz_callS1 (c_wrongUnless true) dX2_wrongOfThree_7 zw_m_X2_56 wYX2_wrongUnless wDX2_wrongUnless rfl (Nat.le_of_ble_eq_true rfl) (by decide) rfl ?_
    refine zz_aload_n dX2_wrongOfThree_10 rfl ?_
    refine zz_aload_n dX2_wrongOfThree_11 rfl ?_
    refine zz_aload_n dX2_wrongOfThree_12 rfl ?_
    refine zz_aload_n dX2_wrongOfThree_13 rfl ?_
    refine zz_callV (ci := 2) (c_distBefore (a := 0) (b := 1) (c := 2) (by omega) (by omega) (by omega) hn (cI_E hI1 (by omega)) (cI_E hI1 (by omega)) (cI_E hI1 (by omega)) (lk_cln (cI_R hI1 (by omega))) (lk_cln (cI_R hI1 (by omega))) (lk_cln (cI_R hI1 (by omega)))) dX2_wrongOfThree_14 zw_m_X2_74 wYX2_distributesBefore wDX2_distributesBefore rfl (by omega) px_th rfl (Nat.le_of_ble_eq_true rfl) (by decide) (by omega) (by omega) rfl ?_ (fun E τ hE => by cases hE.1)
    rintro v11 τ11 ⟨hv11, E1, F1, G1, B1, C1, hE1, hF1, hG1, hB1, hC1, rfl⟩
    cases hv11
    have hI2 := cI_f hI1 hE1 hF1 hG1 (hB1 32 (by omega)) (hC1 32 (by omega))
    refine zz_callS1 (c_wrongUnless true) dX2_wrongOfThree_17 zw_m_X2_56 wYX2_wrongUnless wDX2_wrongUnless rfl (Nat.le_of_ble_eq_true rfl) (by decide) rfl ?_
    refine zz_iadd dX2_wrongOfThree_20 ?_
    refine zz_aload_n dX2_wrongOfThree_21 rfl ?_
    refine zz_aload_n dX2_wrongOfThree_22 rfl ?_
    refine zz_aload_n dX2_wrongOfThree_23 rfl ?_
    refine zz_aload_n dX2_wrongOfThree_24 rfl ?_
    refine zz_callV (ci := 2) (c_distBehind (a := 0) (b := 1) (c := 2) (by omega) (by omega) (by omega) hn (cI_E hI2 (by omega)) (cI_E hI2 (by omega)) (cI_E hI2 (by omega)) (lk_cln (cI_R hI2 (by omega))) (lk_cln (cI_R hI2 (by omega))) (lk_cln (cI_R hI2 (by omega)))) dX2_wrongOfThree_25 zw_m_X2_77 wYX2_distributesBehind wDX2_distributesBehind rfl (by omega) px_th rfl (Nat.le_of_ble_eq_true rfl) (by decide) (by omega) (by omega) rfl ?_ (fun E τ hE => by cases hE.1)
    rintro v21 τ21 ⟨hv21, E2, F2, G2, B2, C2, hE2, hF2, hG2, hB2, hC2, rfl⟩
    cases hv21
    have hI3 := cI_f hI2 hE2 hF2 hG2 (hB2 32 (by omega)) (hC2 32 (by omega))
    refine zz_callS1 (c_wrongUnless true) dX2_wrongOfThree_28 zw_m_X2_56 wYX2_wrongUnless wDX2_wrongUnless rfl (Nat.le_of_ble_eq_true rfl) (by decide) rfl ?_
    refine zz_iadd dX2_wrongOfThree_31 ?_
    refine zz_iret dX2_wrongOfThree_32 rfl ?_
    exact xQ_i rfl hI3
set_option maxHeartbeats 1000000 in
set_option maxRecDepth 20000 in
theorem xl_errors  : ∀ (m i : Nat), i + m = 3 → ∀ (El : Nat → Int32) (Lo Hi : Nat → Nat → Int64) (BL BH : Nat → Int64) (Od : Nat → Nat → Int32) (Ls : Nat → Int32), cI n El Lo Hi BL BH R mk → zz_E mX4_errors none 8 0 0 (xQ n R mk T (.inl (some (.int 0)))) 4 [(2, .int (nI i)), (1, .int 0), (0, .ref 52)] [] (px El Lo Hi BL BH Od Ls (nI n) T) := by
  intro m
  induction m with
  | zero =>
    intro i hi El Lo Hi BL BH Od Ls hI
    have hi2 : i = 3 := by omega
    subst hi2
    refine zz_iload_n dX4_errors_4 rfl ?_
    refine zz_iconst (v := 3) dX4_errors_5 (by decide) ?_
    refine zz_icmp_ge (tgt := 30) dX4_errors_6 (by decide) (fun _ => ?_) (fun h => absurd (nI_le (a := 3) (by omega) (by omega)) h)
    refine zz_iload_n dX4_errors_30 rfl ?_
    refine zz_aload_n dX4_errors_31 rfl ?_
    refine zz_get (ci := 4) (j := 6) zz_inX4 rfl zw_f_X4_44 rfl (by decide) dX4_errors_32 (by omega) px_x rfl ?_
    refine zz_aload_n dX4_errors_35 rfl ?_
    refine zz_iconst (v := 0) dX4_errors_36 (by decide) ?_
    refine zz_callV1 (ci := 4) (x_ra_v (r := 0) (by omega)) dX4_errors_37 zw_m_X4_55 wYX4_relationAt wDX4_relationAt rfl (by omega) px_x rfl (Nat.le_of_ble_eq_true rfl) (by decide) rfl ?_
    refine zz_aload_n dX4_errors_40 rfl ?_
    refine zz_iconst (v := 1) dX4_errors_41 (by decide) ?_
    refine zz_callV1 (ci := 4) (x_ra_v (r := 1) (by omega)) dX4_errors_42 zw_m_X4_55 wYX4_relationAt wDX4_relationAt rfl (by omega) px_x rfl (Nat.le_of_ble_eq_true rfl) (by decide) rfl ?_
    refine zz_aload_n dX4_errors_45 rfl ?_
    refine zz_iconst (v := 2) dX4_errors_46 (by decide) ?_
    refine zz_callV1 (ci := 4) (x_ra_v (r := 2) (by omega)) dX4_errors_47 zw_m_X4_55 wYX4_relationAt wDX4_relationAt rfl (by omega) px_x rfl (Nat.le_of_ble_eq_true rfl) (by decide) rfl ?_
    refine zz_callV (ci := 2) (t_three hI) dX4_errors_50 zw_m_X4_235 wYX2_wrongOfThree wDX2_wrongOfThree rfl (by omega) px_th rfl (Nat.le_of_ble_eq_true rfl) (by decide) (by omega) (by omega) rfl ?_ (fun E τ hE => by cases hE.1)
    rintro v9 τ9 ⟨hv9, E9, F9, G9, B9, C9, O9, S9, hI9, rfl⟩
    cases hv9
    refine zz_iadd dX4_errors_53 ?_
    refine zz_iret dX4_errors_54 rfl ?_
    exact xQ_i rfl hI9
  | succ m ih =>
    intro i hi El Lo Hi BL BH Od Ls hI
    refine zz_iload_n dX4_errors_4 rfl ?_
    refine zz_iconst (v := 3) dX4_errors_5 (by decide) ?_
    refine zz_icmp_ge (tgt := 30) dX4_errors_6 (by decide) (fun h => absurd h (nI_ge (b := 3) (by omega) (by omega))) (fun _ => ?_)
    refine zz_iload_n dX4_errors_9 rfl ?_
    refine zz_aload_n dX4_errors_10 rfl ?_
    refine zz_get (ci := 4) (j := 6) zz_inX4 rfl zw_f_X4_44 rfl (by decide) dX4_errors_11 (by omega) px_x rfl ?_
    refine zz_aload_n dX4_errors_14 rfl ?_
    refine zz_iload_n dX4_errors_15 rfl ?_
    refine zz_callV1 (ci := 4) (x_ra_v (r := i) (by omega)) dX4_errors_16 zw_m_X4_55 wYX4_relationAt wDX4_relationAt rfl (by omega) px_x rfl (Nat.le_of_ble_eq_true rfl) (by decide) rfl ?_
    refine zz_callV (ci := 2) (t_one (r := i) (by omega) hI) dX4_errors_19 zw_m_X4_232 wYX2_wrongOfOne wDX2_wrongOfOne rfl (by omega) px_th rfl (Nat.le_of_ble_eq_true rfl) (by decide) (by omega) (by omega) rfl ?_ (fun E τ hE => by cases hE.1)
    rintro v9 τ9 ⟨hv9, E9, F9, G9, B9, C9, O9, S9, hI9, rfl⟩
    cases hv9
    refine zz_iadd dX4_errors_22 ?_
    refine zz_istore_n dX4_errors_23 (by decide) ?_
    refine zz_iinc (v := nI (i + 1)) dX4_errors_24 rfl (nI_1 i) (by decide) ?_
    refine zz_goto (tgt := 4) dX4_errors_27 (by decide) ?_
    refine zz_lvs (lv2 := [(2, .int (nI (i + 1))), (1, .int 0), (0, .ref 52)]) (fun q hq => by simp only [List.mem_cons, List.not_mem_nil, or_false] at hq; rcases hq with rfl | rfl | rfl <;> simp [zz_up1, zz_up2, Value.category]) ?_
    exact ih (i + 1) (by omega) _ _ _ _ _ _ _ hI9
set_option maxHeartbeats 1000000 in
set_option maxRecDepth 20000 in
theorem x_errors (hI : cI n El Lo Hi BL BH R mk) : zz_C mX4_errors 8 0 0 [.ref 52] (px El Lo Hi BL BH Od Ls (nI n) T) (xQ n R mk T (.inl (some (.int 0)))) := by
  · refine zz_start wPX4_errors rfl rfl (Nat.le_of_ble_eq_true rfl) ?_
    refine zz_iconst (v := 0) dX4_errors_0 (by decide) ?_
    refine zz_istore_n dX4_errors_1 (by decide) ?_
    refine zz_iconst (v := 0) dX4_errors_2 (by decide) ?_
    refine zz_istore_n dX4_errors_3 (by decide) ?_
    exact xl_errors 3 0 (by omega) El Lo Hi BL BH Od Ls hI
end ZZX4F
