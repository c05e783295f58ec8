section ZYR1b
variable {El : Nat → Int32} {Lo Hi : Nat → Nat → Int64} {BL BH : Nat → Int64} {Od : Nat → Nat → Int32} {Ls : Nat → Int32} {n : Nat} {R : Nat → Nat → Nat → Bool} {mk : Nat → Bool} {MB : Nat → Nat → Bool} {rho nu : Nat → Int32} {T : zz_St}
set_option maxHeartbeats 1000000 in
set_option maxRecDepth 20000 in
theorem ar_382 {r a : Nat} (hr : r < 4) (ha : a < n) (hI : cI n El Lo Hi BL BH R mk) (hg : gr n (MB 54) (R r)) : zz_E mL_areRows none 9 4 24 (trQ n T) 382 [(13, .int 1), (7, .int (nI a)), (0, .ref 52), (1, .ref 57), (2, .int (nI r)), (3, .int (nI n)), (4, .ref 54), (5, .ref 55)] [] (px El Lo Hi BL BH Od Ls (nI n) (pl MB rho nu T)) := by
  have hn := cI_n hI
  have h1 := cI_1 hI
  refine zz_aload_n dL_areRows_382 rfl ?_
  refine zz_callS (c_next) dL_areRows_383 zw_m_L_8 wYL_next wDL_next rfl (Nat.le_of_ble_eq_true rfl) (by decide) (by omega) (by omega) rfl ?_ (fun E τ hE => by obtain ⟨_, _, _, hE, _⟩ := hE; cases hE)
  rintro v1 τ1 ⟨m1, rho1, hm1, hv1, rfl⟩
  cases hv1
  refine zz_iload_n dL_areRows_386 rfl ?_
  refine zz_irem dL_areRows_387 (nI_ne0 (by omega) (by omega)) ?_
  refine zz_tope (y := nI (m1 % n)) (pk_rem (by omega) (by omega) (by omega)) ?_
  obtain ⟨b, hb, eb⟩ : ∃ b, b < n ∧ m1 % n = b := ⟨_, Nat.mod_lt _ (by omega), rfl⟩
  rw [eb]
  refine zz_istore dL_areRows_388 (by decide) ?_
  refine zz_iconst (v := 0) dL_areRows_390 (by decide) ?_
  refine zz_istore dL_areRows_391 (by decide) ?_
  refine zz_iconst (v := 0) dL_areRows_393 (by decide) ?_
  refine zz_istore dL_areRows_394 (by decide) ?_
  refine zz_lvl (lv2 := [(17, .int (nI 0)), (16, .int (zB (anb (fun k => R r a k && R r b k) 0))), (15, .int (nI b)), (13, .int 1), (7, .int (nI a)), (0, .ref 52), (1, .ref 57), (2, .int (nI r)), (3, .int (nI n)), (4, .ref 54), (5, .ref 55)]) ⟨rfl, rfl, rfl, rfl, rfl, rfl, rfl, rfl, rfl, rfl, rfl, trivial⟩ ?_
  refine ar_396 ha hb hn hg _ _ ?_ n 0 (by omega)
  refine zz_iload dL_areRows_446 rfl ?_
  refine zz_if_eq (tgt := 529) dL_areRows_448 (by decide) (fun h => absurd h (by decide)) (fun _ => ?_)
  refine zz_aload_n dL_areRows_451 rfl ?_
  refine zz_iload_n dL_areRows_452 rfl ?_
  refine zz_iload dL_areRows_453 rfl ?_
  refine zz_iload_n dL_areRows_455 rfl ?_
  refine zz_iload dL_areRows_456 rfl ?_
  refine zz_callV (ci := 4) (x_meet_v (r := r) (w := r) hr ha hr hb hI) dL_areRows_458 zw_m_L_172 wYX4_meet wDX4_meet rfl (by omega) px_x rfl (Nat.le_of_ble_eq_true rfl) (by decide) (by omega) (by omega) rfl ?_ (fun E τ hE => by cases hE.1)
  rintro v1 τ1 ⟨hv1, El1, Lo1, Hi1, BL1, BH1, Od1, Ls1, hI1, rfl⟩
  cases hv1
  refine zz_iload dL_areRows_461 rfl ?_
  refine zz_icmp_ne (tgt := 529) dL_areRows_463 (by decide) (fun h => absurd rfl h) (fun _ => ?_)
  refine zz_aload_n dL_areRows_466 rfl ?_
  refine zz_iload_n dL_areRows_467 rfl ?_
  refine zz_iload dL_areRows_468 rfl ?_
  refine zz_iload dL_areRows_470 rfl ?_
  refine zz_iconst (v := 1) dL_areRows_472 (by decide) ?_
  refine zz_callV (ci := 4) (x_set_v (r := r) hr ha hb true hI1) dL_areRows_473 zw_m_L_176 wYX4_set wDX4_set rfl (by omega) px_x rfl (Nat.le_of_ble_eq_true rfl) (by decide) (by omega) (by omega) rfl ?_ (fun E τ hE => by cases hE.1)
  rintro v2 τ2 ⟨hv2, El2, Lo2, Hi2, BL2, BH2, Od2, Ls2, hI2, rfl⟩
  cases hv2
  have hset : va_up R r (va_up (R r) a (ptS (R r a) b (b + 1) true)) r a b = true := by
    rw [up_at, up_at]
    exact if_pos ⟨Nat.le_refl b, Nat.lt_succ_self b⟩
  refine zz_aload dL_areRows_476 rfl ?_
  refine zz_bipush (v := 80) dL_areRows_478 (by decide) ?_
  refine zz_iload dL_areRows_480 rfl ?_
  refine zz_imul dL_areRows_482 ?_
  refine zz_iload dL_areRows_483 rfl ?_
  refine zz_iadd dL_areRows_485 ?_
  refine zz_tope (y := nI (80 * a + b)) (by simp only [i80, i81, pk_mul, nI_add, nI_1]) ?_
  refine zl_qb dL_areRows_486 (by omega) (by omega) ?_
  rw [hg a b ha hb]
  refine zz_icmp_ne (tgt := 529) dL_areRows_487 (by decide) (fun h => absurd rfl h) (fun _ => ?_)
  refine zz_aload_n dL_areRows_490 rfl ?_
  refine zz_iload_n dL_areRows_491 rfl ?_
  refine zz_iload dL_areRows_492 rfl ?_
  refine zz_iload dL_areRows_494 rfl ?_
  refine zz_callV (ci := 4) (x_has_v (r := r) hr ha hb hI2) dL_areRows_496 zw_m_L_180 wYX4_has wDX4_has rfl (by omega) px_x rfl (Nat.le_of_ble_eq_true rfl) (by decide) (by omega) (by omega) rfl ?_ (fun E τ hE => by cases hE.1)
  rintro v3 τ3 ⟨hv3, El3, Lo3, Hi3, BL3, BH3, Od3, Ls3, hI3, rfl⟩
  cases hv3
  refine zz_if_eq (tgt := 529) dL_areRows_499 (by decide) (fun h => absurd h (by rw [hset]; decide)) (fun _ => ?_)
  refine zz_aload_n dL_areRows_502 rfl ?_
  refine zz_iload_n dL_areRows_503 rfl ?_
  refine zz_iload dL_areRows_504 rfl ?_
  refine zz_iload dL_areRows_506 rfl ?_
  refine zz_aload dL_areRows_508 rfl ?_
  refine zz_bipush (v := 80) dL_areRows_510 (by decide) ?_
  refine zz_iload dL_areRows_512 rfl ?_
  refine zz_imul dL_areRows_514 ?_
  refine zz_iload dL_areRows_515 rfl ?_
  refine zz_iadd dL_areRows_517 ?_
  refine zz_tope (y := nI (80 * a + b)) (by simp only [i80, i81, pk_mul, nI_add, nI_1]) ?_
  refine zl_qb dL_areRows_518 (by omega) (by omega) ?_
  rw [hg a b ha hb]
  refine zz_callV (ci := 4) (x_set_v (r := r) hr ha hb _ hI3) dL_areRows_519 zw_m_L_176 wYX4_set wDX4_set rfl (by omega) px_x rfl (Nat.le_of_ble_eq_true rfl) (by decide) (by omega) (by omega) rfl ?_ (fun E τ hE => by cases hE.1)
  rintro v4 τ4 ⟨hv4, El4, Lo4, Hi4, BL4, BH4, Od4, Ls4, hI4, rfl⟩
  cases hv4
  refine zz_if_eq (tgt := 529) dL_areRows_522 (by decide) (fun h => absurd h (by rw [hset]; decide)) (fun _ => ?_)
  refine zz_iconst (v := 1) dL_areRows_525 (by decide) ?_
  refine zz_goto (tgt := 530) dL_areRows_526 (by decide) ?_
  refine zz_zret dL_areRows_530 rfl (by first | rfl | exact zB_nar _) ?_
  exact trQ_i hI4
end ZYR1b
