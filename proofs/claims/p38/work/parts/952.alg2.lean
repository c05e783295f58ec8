section ZYW2
variable {El : Nat → Int32} {Lo Hi : Nat → Nat → Int64} {BL BH : Nat → Int64} {Od : Nat → Nat → Int32} {Ls : Nat → Int32} {n : Nat} {R : Nat → Nat → Nat → Bool} {mk : Nat → Bool} {MB : Nat → Nat → Bool} {rho nu : Nat → Int32} {T : zz_St}
set_option maxHeartbeats 1000000 in
set_option maxRecDepth 20000 in
theorem al_534 {a b : Nat} (ha : a < 3) (hb : b < 3) (hI : cI n El Lo Hi BL BH R mk) {X : Nat → Nat → Bool} (eX : R a = X) (hg : gr n (MB 54) X) : zz_E mL_isAlgebra none 9 330 1980 (trQ n T) 534 [(12, .int (nI (pn n X))), (9, .int 1), (7, .int (nI b)), (6, .int (nI a)), (0, .ref 52), (1, .ref 57), (2, .int (nI n)), (3, .ref 54), (4, .ref 55), (5, .ref 56)] [] (px El Lo Hi BL BH Od Ls (nI n) (pl MB rho nu T)) := by
  have hn := cI_n hI
  have h1 := cI_1 hI
  have ha4 : a < 4 := by omega
  have hb4 : b < 4 := by omega
  have ha3 : a ≠ 3 := by omega
  have hb3 : b ≠ 3 := by omega
  refine zz_aload_n dL_isAlgebra_534 rfl ?_
  refine zz_callS (c_next) dL_isAlgebra_535 zw_m_L_8 wYL_next wDL_next rfl (Nat.le_of_ble_eq_true rfl) (by decide) (by omega) (by omega) rfl ?_ (fun E τ hE => by obtain ⟨_, _, _, hE, _⟩ := hE; cases hE)
  rintro v1 τ1 ⟨m1, rho1, hm1, hv1, rfl⟩
  cases hv1
  refine zz_iconst (v := 4) dL_isAlgebra_538 (by decide) ?_
  refine zz_irem dL_isAlgebra_539 ((by decide)) ?_
  refine zz_tope (y := nI (m1 % 4)) (pk_rem (d := 4) (by omega) (by omega) (by omega)) ?_
  obtain ⟨w, hw, ew⟩ : ∃ w, w < 4 ∧ m1 % 4 = w := ⟨_, Nat.mod_lt _ (by omega), rfl⟩
  rw [ew]
  refine zz_istore dL_isAlgebra_540 (by decide) ?_
  refine zz_aload_n dL_isAlgebra_542 rfl ?_
  refine zz_iload dL_isAlgebra_543 rfl ?_
  refine zz_iconst (v := 3) dL_isAlgebra_545 (by decide) ?_
  refine zz_callV (ci := 4) (y_copy ha4 eX hI) dL_isAlgebra_546 zw_m_L_135 wYX4_copy wDX4_copy rfl (by omega) px_x rfl (Nat.le_of_ble_eq_true rfl) (by decide) (by omega) (by omega) rfl ?_ (fun E τ hE => by cases hE.1)
  rintro v2 τ2 ⟨hv2, El2, Lo2, Hi2, BL2, BH2, Od2, Ls2, hI2, rfl⟩
  cases hv2
  refine zz_istore dL_isAlgebra_549 (by decide) ?_
  refine zz_aload_n dL_isAlgebra_551 rfl ?_
  refine zz_iload dL_isAlgebra_552 rfl ?_
  refine zz_iload_n dL_isAlgebra_554 rfl ?_
  refine zz_aload dL_isAlgebra_555 rfl ?_
  refine zz_callS (y_sees (q := 55) hb4 (by omega) (up_ne _ _ hb3) hI2) dL_isAlgebra_557 zw_m_L_87 wYL_sees wDL_sees rfl (Nat.le_of_ble_eq_true rfl) (by decide) (by omega) (by omega) rfl ?_ (fun E τ hE => by obtain ⟨_, _, _, hE, _⟩ := hE; cases hE)
  rintro v3 τ3 ⟨MB3, hg3, hp3, hv3, El3, Lo3, Hi3, BL3, BH3, Od3, Ls3, hI3, rfl⟩
  cases hv3
  refine zz_istore dL_isAlgebra_560 (by decide) ?_
  refine zz_aload_n dL_isAlgebra_562 rfl ?_
  refine zz_iconst (v := 0) dL_isAlgebra_563 (by decide) ?_
  refine zz_iconst (v := 3) dL_isAlgebra_564 (by decide) ?_
  refine zz_iload dL_isAlgebra_565 rfl ?_
  refine zz_iload dL_isAlgebra_567 rfl ?_
  refine zz_callSH rfl (dv_combine px_x 3 (nI b) (nI w) (y_combine (r := 3) (w := b) (h := w) (by omega) hb4 hw (up_at _ _ _) (up_ne _ _ hb3) hI3)) dL_isAlgebra_569 zw_m_L_72 wYL_done wDL_done rfl (Nat.le_of_ble_eq_true rfl) (by decide) (by omega) (by omega) rfl ?_ (fun E τ hE => by cases hE.1)
  rintro v4 τ4 ⟨hv4, El4, Lo4, Hi4, BL4, BH4, Od4, Ls4, hI4, rfl⟩
  cases hv4
  rw [up_up] at hI4
  refine zz_istore dL_isAlgebra_572 (by decide) ?_
  refine zz_iload dL_isAlgebra_574 rfl ?_
  refine zz_if_eq (tgt := 614) dL_isAlgebra_576 (by decide) (fun h => absurd h (by decide)) (fun _ => ?_)
  refine zz_iload dL_isAlgebra_579 rfl ?_
  refine zz_iload dL_isAlgebra_581 rfl ?_
  refine zz_icmp_ne (tgt := 614) dL_isAlgebra_583 (by decide) (fun h => absurd rfl h) (fun _ => ?_)
  refine zz_aload_n dL_isAlgebra_586 rfl ?_
  refine zz_iconst (v := 3) dL_isAlgebra_587 (by decide) ?_
  refine zz_iload_n dL_isAlgebra_588 rfl ?_
  refine zz_aload dL_isAlgebra_589 rfl ?_
  refine zz_callS (y_sees (r := 3) (q := 56) (by omega) (by omega) (up_at _ _ _) hI4) dL_isAlgebra_591 zw_m_L_87 wYL_sees wDL_sees rfl (Nat.le_of_ble_eq_true rfl) (by decide) (by omega) (by omega) rfl ?_ (fun E τ hE => by obtain ⟨_, _, _, hE, _⟩ := hE; cases hE)
  rintro v5 τ5 ⟨MB5, hg5, hp5, hv5, El5, Lo5, Hi5, BL5, BH5, Od5, Ls5, hI5, rfl⟩
  cases hv5
  refine zz_iload dL_isAlgebra_594 rfl ?_
  refine zz_icmp_ne (tgt := 614) dL_isAlgebra_596 (by decide) (fun h => absurd rfl h) (fun _ => ?_)
  refine zz_aload_n dL_isAlgebra_599 rfl ?_
  refine zz_iload dL_isAlgebra_600 rfl ?_
  refine zz_callV (ci := 4) (y_count hb4 (up_ne _ _ hb3) hI5) dL_isAlgebra_602 zw_m_L_99 wYX4_count wDX4_count rfl (by omega) px_x rfl (Nat.le_of_ble_eq_true rfl) (by decide) (by omega) (by omega) rfl ?_ (fun E τ hE => by cases hE.1)
  rintro v6 τ6 ⟨hv6, El6, Lo6, Hi6, BL6, BH6, Od6, Ls6, hI6, rfl⟩
  cases hv6
  refine zz_iload dL_isAlgebra_605 rfl ?_
  refine zz_icmp_ne (tgt := 614) dL_isAlgebra_607 (by decide) (fun h => absurd rfl h) (fun _ => ?_)
  refine zz_iconst (v := 1) dL_isAlgebra_610 (by decide) ?_
  refine zz_goto (tgt := 615) dL_isAlgebra_611 (by decide) ?_
  refine zz_istore dL_isAlgebra_615 (by decide) ?_
  refine zz_iconst (v := 0) dL_isAlgebra_617 (by decide) ?_
  refine zz_istore dL_isAlgebra_618 (by decide) ?_
  refine zz_less (rc1 := 0) (rz1 := 0) (by omega) (by omega) ?_
  refine zz_lvl (lv2 := [(17, .int (nI 0)), (13, .int (nI w)), (9, .int 1), (0, .ref 52), (1, .ref 57), (2, .int (nI n)), (3, .ref 54), (4, .ref 55), (5, .ref 56)]) ⟨rfl, rfl, rfl, rfl, rfl, rfl, rfl, rfl, rfl, trivial⟩ ?_
  have hx : gr n (MB5 54) X := by rw [hp5 54 (by omega), hp3 54 (by omega)]; exact hg
  have hy : gr n (MB5 55) (R b) := by rw [hp5 55 (by omega)]; exact hg3
  exact al_620 hw hn hx hy hg5 0 0 (80 * n) 0 (by omega) _ _ _ _ _ _ _ hI6
set_option maxHeartbeats 1000000 in
set_option maxRecDepth 20000 in
theorem al_419 {a b : Nat} (ha : a < 3) (hb : b < 3) (hI : cI n El Lo Hi BL BH R mk) {X : Nat → Nat → Bool} (eX : R a = fun i k => X k i) (hg : gr n (MB 54) X) : zz_E mL_isAlgebra none 9 1000 6000 (trQ n T) 419 [(12, .int (nI (pn n X))), (9, .int 1), (7, .int (nI b)), (6, .int (nI a)), (0, .ref 52), (1, .ref 57), (2, .int (nI n)), (3, .ref 54), (4, .ref 55), (5, .ref 56)] [] (px El Lo Hi BL BH Od Ls (nI n) (pl MB rho nu T)) := by
  have hn := cI_n hI
  have h1 := cI_1 hI
  have ha4 : a < 4 := by omega
  have hb4 : b < 4 := by omega
  have ha3 : a ≠ 3 := by omega
  have hb3 : b ≠ 3 := by omega
  have hpl := pn_le n X
  refine zz_iload dL_isAlgebra_419 rfl ?_
  refine zz_if_eq (tgt := 531) dL_isAlgebra_421 (by decide) (fun h => absurd h (by decide)) (fun _ => ?_)
  refine zz_aload_n dL_isAlgebra_424 rfl ?_
  refine zz_iload dL_isAlgebra_425 rfl ?_
  refine zz_callV (ci := 4) (y_turn ha4 eX hI) dL_isAlgebra_427 zw_m_L_163 wYX4_turn wDX4_turn rfl (by omega) px_x rfl (Nat.le_of_ble_eq_true rfl) (by decide) (by omega) (by omega) rfl ?_ (fun E τ hE => by cases hE.1)
  rintro v1 τ1 ⟨hv1, El1, Lo1, Hi1, BL1, BH1, Od1, Ls1, hI1, rfl⟩
  cases hv1
  refine zz_iload dL_isAlgebra_430 rfl ?_
  refine zz_icmp_ne (tgt := 531) dL_isAlgebra_432 (by decide) (fun h => absurd rfl h) (fun _ => ?_)
  refine zz_aload_n dL_isAlgebra_435 rfl ?_
  refine zz_iload dL_isAlgebra_436 rfl ?_
  refine zz_iload_n dL_isAlgebra_438 rfl ?_
  refine zz_aload dL_isAlgebra_439 rfl ?_
  refine zz_callS (y_sees (q := 55) ha4 (by omega) (X := X) (up_at _ _ _) hI1) dL_isAlgebra_441 zw_m_L_87 wYL_sees wDL_sees rfl (Nat.le_of_ble_eq_true rfl) (by decide) (by omega) (by omega) rfl ?_ (fun E τ hE => by obtain ⟨_, _, _, hE, _⟩ := hE; cases hE)
  rintro v2 τ2 ⟨MB2, hg2, hp2, hv2, El2, Lo2, Hi2, BL2, BH2, Od2, Ls2, hI2, rfl⟩
  cases hv2
  have hab2 : ∀ i k, i < n → k < n → MB2 54 (80 * i + k) = MB2 55 (80 * i + k) := fun i k hi hk => by rw [hp2 54 (by omega), hg i k hi hk, hg2 i k hi hk]
  refine zz_iload dL_isAlgebra_444 rfl ?_
  refine zz_icmp_ne (tgt := 531) dL_isAlgebra_446 (by decide) (fun h => absurd rfl h) (fun _ => ?_)
  refine zz_aload_n dL_isAlgebra_449 rfl ?_
  refine zz_aload dL_isAlgebra_450 rfl ?_
  refine zz_iload_n dL_isAlgebra_452 rfl ?_
  refine zz_callS1 (k_isLike (q := 54) (w := 55) (by omega) (by omega) hn hab2) dL_isAlgebra_453 zw_m_L_142 wYL_isLike wDL_isLike rfl (Nat.le_of_ble_eq_true rfl) (by decide) rfl ?_
  refine zz_if_eq (tgt := 531) dL_isAlgebra_456 (by decide) (fun h => absurd h (by decide)) (fun _ => ?_)
  refine zz_aload_n dL_isAlgebra_459 rfl ?_
  refine zz_iload dL_isAlgebra_460 rfl ?_
  refine zz_callV (ci := 4) (y_oppose ha4 (X := X) (up_at _ _ _) hI2) dL_isAlgebra_462 zw_m_L_166 wYX4_oppose wDX4_oppose rfl (by omega) px_x rfl (Nat.le_of_ble_eq_true rfl) (by decide) (by omega) (by omega) rfl ?_ (fun E τ hE => by cases hE.1)
  rintro v3 τ3 ⟨hv3, El3, Lo3, Hi3, BL3, BH3, Od3, Ls3, hI3, rfl⟩
  cases hv3
  refine zz_iload_n dL_isAlgebra_465 rfl ?_
  refine zz_iload_n dL_isAlgebra_466 rfl ?_
  refine zz_imul dL_isAlgebra_467 ?_
  refine zz_iload dL_isAlgebra_468 rfl ?_
  refine zz_isub dL_isAlgebra_470 ?_
  refine zz_tope (y := nI (n * n - pn n X)) (by rw [pk_mul, pk_sub hpl]) ?_
  refine zz_icmp_ne (tgt := 531) dL_isAlgebra_471 (by decide) (fun h => absurd (by rw [pn_opp]) h) (fun _ => ?_)
  refine zz_aload_n dL_isAlgebra_474 rfl ?_
  refine zz_iload dL_isAlgebra_475 rfl ?_
  refine zz_iload_n dL_isAlgebra_477 rfl ?_
  refine zz_aload dL_isAlgebra_478 rfl ?_
  refine zz_callS (y_sees (q := 55) ha4 (by omega) (up_at _ _ _) hI3) dL_isAlgebra_480 zw_m_L_87 wYL_sees wDL_sees rfl (Nat.le_of_ble_eq_true rfl) (by decide) (by omega) (by omega) rfl ?_ (fun E τ hE => by obtain ⟨_, _, _, hE, _⟩ := hE; cases hE)
  rintro v4 τ4 ⟨MB4, hg4, hp4, hv4, El4, Lo4, Hi4, BL4, BH4, Od4, Ls4, hI4, rfl⟩
  cases hv4
  refine zz_iload_n dL_isAlgebra_483 rfl ?_
  refine zz_iload_n dL_isAlgebra_484 rfl ?_
  refine zz_imul dL_isAlgebra_485 ?_
  refine zz_iload dL_isAlgebra_486 rfl ?_
  refine zz_isub dL_isAlgebra_488 ?_
  refine zz_tope (y := nI (n * n - pn n X)) (by rw [pk_mul, pk_sub hpl]) ?_
  refine zz_icmp_ne (tgt := 531) dL_isAlgebra_489 (by decide) (fun h => absurd (by rw [pn_opp]) h) (fun _ => ?_)
  refine zz_aload_n dL_isAlgebra_492 rfl ?_
  refine zz_iload dL_isAlgebra_493 rfl ?_
  refine zz_callV (ci := 4) (y_oppose ha4 (up_at _ _ _) hI4) dL_isAlgebra_495 zw_m_L_166 wYX4_oppose wDX4_oppose rfl (by omega) px_x rfl (Nat.le_of_ble_eq_true rfl) (by decide) (by omega) (by omega) rfl ?_ (fun E τ hE => by cases hE.1)
  rintro v5 τ5 ⟨hv5, El5, Lo5, Hi5, BL5, BH5, Od5, Ls5, hI5, rfl⟩
  cases hv5
  refine zz_iload dL_isAlgebra_498 rfl ?_
  refine zz_icmp_ne (tgt := 531) dL_isAlgebra_500 (by decide) (fun h => absurd (congrArg nI (pn_c (fun i k _ _ => Bool.not_not (X i k)))) h) (fun _ => ?_)
  refine zz_aload_n dL_isAlgebra_503 rfl ?_
  refine zz_iload dL_isAlgebra_504 rfl ?_
  refine zz_iload_n dL_isAlgebra_506 rfl ?_
  refine zz_aload dL_isAlgebra_507 rfl ?_
  refine zz_callS (y_sees (q := 55) ha4 (by omega) (X := X) ((up_at _ _ _).trans (funext fun i => funext fun k => Bool.not_not (X i k))) hI5) dL_isAlgebra_509 zw_m_L_87 wYL_sees wDL_sees rfl (Nat.le_of_ble_eq_true rfl) (by decide) (by omega) (by omega) rfl ?_ (fun E τ hE => by obtain ⟨_, _, _, hE, _⟩ := hE; cases hE)
  rintro v6 τ6 ⟨MB6, hg6, hp6, hv6, El6, Lo6, Hi6, BL6, BH6, Od6, Ls6, hI6, rfl⟩
  cases hv6
  have hx6 : gr n (MB6 54) X := by rw [hp6 54 (by omega), hp4 54 (by omega), hp2 54 (by omega)]; exact hg
  have hab6 : ∀ i k, i < n → k < n → MB6 54 (80 * i + k) = MB6 55 (80 * i + k) := fun i k hi hk => by rw [hx6 i k hi hk, hg6 i k hi hk]
  refine zz_iload dL_isAlgebra_512 rfl ?_
  refine zz_icmp_ne (tgt := 531) dL_isAlgebra_514 (by decide) (fun h => absurd rfl h) (fun _ => ?_)
  refine zz_aload_n dL_isAlgebra_517 rfl ?_
  refine zz_aload dL_isAlgebra_518 rfl ?_
  refine zz_iload_n dL_isAlgebra_520 rfl ?_
  refine zz_callS1 (k_isLike (q := 54) (w := 55) (by omega) (by omega) hn hab6) dL_isAlgebra_521 zw_m_L_142 wYL_isLike wDL_isLike rfl (Nat.le_of_ble_eq_true rfl) (by decide) rfl ?_
  refine zz_if_eq (tgt := 531) dL_isAlgebra_524 (by decide) (fun h => absurd h (by decide)) (fun _ => ?_)
  refine zz_iconst (v := 1) dL_isAlgebra_527 (by decide) ?_
  refine zz_goto (tgt := 532) dL_isAlgebra_528 (by decide) ?_
  refine zz_istore dL_isAlgebra_532 (by decide) ?_
  refine zz_less (rc1 := 330) (rz1 := 1980) (by omega) (by omega) ?_
  refine zz_lvl (lv2 := [(12, .int (nI (pn n X))), (9, .int 1), (7, .int (nI b)), (6, .int (nI a)), (0, .ref 52), (1, .ref 57), (2, .int (nI n)), (3, .ref 54), (4, .ref 55), (5, .ref 56)]) ⟨rfl, rfl, rfl, rfl, rfl, rfl, rfl, rfl, rfl, rfl, trivial⟩ ?_
  exact al_534 ha hb hI6 (X := X) ((up_at _ _ _).trans (funext fun i => funext fun k => Bool.not_not (X i k))) hx6
set_option maxHeartbeats 1000000 in
set_option maxRecDepth 20000 in
theorem al_365 {a b : Nat} {z12 : Int32} (hn : n ≤ 80) {X : Nat → Nat → Bool} (hx : gr n (MB 54) X) (hy : gr n (MB 55) (fun i k => X k i)) {x : Nat} (hxn : x < n) (rc rz : Nat) (K : zz_E mL_isAlgebra none 9 rc rz (trQ n T) 413 [(13, .int (nI x)), (12, .int z12), (9, .int 1), (7, .int (nI b)), (6, .int (nI a)), (0, .ref 52), (1, .ref 57), (2, .int (nI n)), (3, .ref 54), (4, .ref 55), (5, .ref 56)] [] (px El Lo Hi BL BH Od Ls (nI n) (pl MB rho nu T))) : ∀ (m i : Nat), i + m = n → zz_E mL_isAlgebra none 9 rc rz (trQ n T) 365 [(14, .int (nI i)), (13, .int (nI x)), (12, .int z12), (9, .int 1), (7, .int (nI b)), (6, .int (nI a)), (0, .ref 52), (1, .ref 57), (2, .int (nI n)), (3, .ref 54), (4, .ref 55), (5, .ref 56)] [] (px El Lo Hi BL BH Od Ls (nI n) (pl MB rho nu T)) := by
  intro m
  induction m with
  | zero =>
    intro i hi
    have hk : n = i := by omega
    subst hk
    refine zz_iload dL_isAlgebra_365 rfl ?_
    refine zz_iload_n dL_isAlgebra_367 rfl ?_
    refine zz_icmp_ge (tgt := 413) dL_isAlgebra_368 (by decide) (fun _ => ?_) (fun h => absurd (nI_le (Nat.le_refl _) (by omega)) h)
    refine zz_lvl (lv2 := [(13, .int (nI x)), (12, .int z12), (9, .int 1), (7, .int (nI b)), (6, .int (nI a)), (0, .ref 52), (1, .ref 57), (2, .int (nI n)), (3, .ref 54), (4, .ref 55), (5, .ref 56)]) ⟨rfl, rfl, rfl, rfl, rfl, rfl, rfl, rfl, rfl, rfl, rfl, trivial⟩ ?_
    exact K
  | succ m ih =>
    intro i hi
    have hk : i < n := by omega
    refine zz_iload dL_isAlgebra_365 rfl ?_
    refine zz_iload_n dL_isAlgebra_367 rfl ?_
    refine zz_icmp_ge (tgt := 413) dL_isAlgebra_368 (by decide) (fun h => absurd h (nI_ge (by omega) (by omega))) (fun _ => ?_)
    refine zz_iload dL_isAlgebra_371 rfl ?_
    refine zz_if_eq (tgt := 404) dL_isAlgebra_373 (by decide) (fun h => absurd h (by decide)) (fun _ => ?_)
    refine zz_aload dL_isAlgebra_376 rfl ?_
    refine zz_bipush (v := 80) dL_isAlgebra_378 (by decide) ?_
    refine zz_iload dL_isAlgebra_380 rfl ?_
    refine zz_imul dL_isAlgebra_382 ?_
    refine zz_iload dL_isAlgebra_383 rfl ?_
    refine zz_iadd dL_isAlgebra_385 ?_
    refine zz_tope (y := nI (80 * x + i)) (by simp only [i80, i81, pk_mul, nI_add, nI_1]) ?_
    refine zl_qb dL_isAlgebra_386 (by omega) (by omega) ?_
    rw [hy x i hxn hk]
    refine zz_aload_n dL_isAlgebra_387 rfl ?_
    refine zz_bipush (v := 80) dL_isAlgebra_388 (by decide) ?_
    refine zz_iload dL_isAlgebra_390 rfl ?_
    refine zz_imul dL_isAlgebra_392 ?_
    refine zz_iload dL_isAlgebra_393 rfl ?_
    refine zz_iadd dL_isAlgebra_395 ?_
    refine zz_tope (y := nI (80 * i + x)) (by simp only [i80, i81, pk_mul, nI_add, nI_1]) ?_
    refine zl_qb dL_isAlgebra_396 (by omega) (by omega) ?_
    rw [hx i x hk hxn]
    refine zz_icmp_ne (tgt := 404) dL_isAlgebra_397 (by decide) (fun h => absurd rfl h) (fun _ => ?_)
    refine zz_iconst (v := 1) dL_isAlgebra_400 (by decide) ?_
    refine zz_goto (tgt := 405) dL_isAlgebra_401 (by decide) ?_
    refine zz_istore dL_isAlgebra_405 (by decide) ?_
    refine zz_iinc (v := nI (i + 1)) dL_isAlgebra_407 rfl (nI_1 i) (by decide) ?_
    refine zz_goto (tgt := 365) dL_isAlgebra_410 (by decide) ?_
    refine zz_lvl (lv2 := [(14, .int (nI (i + 1))), (13, .int (nI x)), (12, .int z12), (9, .int 1), (7, .int (nI b)), (6, .int (nI a)), (0, .ref 52), (1, .ref 57), (2, .int (nI n)), (3, .ref 54), (4, .ref 55), (5, .ref 56)]) ⟨rfl, rfl, rfl, rfl, rfl, rfl, rfl, rfl, rfl, rfl, rfl, rfl, trivial⟩ ?_
    exact ih (i + 1) (by omega)
set_option maxHeartbeats 1000000 in
set_option maxRecDepth 20000 in
theorem al_351 {a b : Nat} {z12 : Int32} (hn : n ≤ 80) {X : Nat → Nat → Bool} (hx : gr n (MB 54) X) (hy : gr n (MB 55) (fun i k => X k i)) (rc rz : Nat) (K : zz_E mL_isAlgebra none 9 rc rz (trQ n T) 419 [(12, .int z12), (9, .int 1), (7, .int (nI b)), (6, .int (nI a)), (0, .ref 52), (1, .ref 57), (2, .int (nI n)), (3, .ref 54), (4, .ref 55), (5, .ref 56)] [] (px El Lo Hi BL BH Od Ls (nI n) (pl MB rho nu T))) : ∀ (m i : Nat), i + m = n → zz_E mL_isAlgebra none 9 rc rz (trQ n T) 351 [(13, .int (nI i)), (12, .int z12), (9, .int 1), (7, .int (nI b)), (6, .int (nI a)), (0, .ref 52), (1, .ref 57), (2, .int (nI n)), (3, .ref 54), (4, .ref 55), (5, .ref 56)] [] (px El Lo Hi BL BH Od Ls (nI n) (pl MB rho nu T)) := by
  intro m
  induction m with
  | zero =>
    intro i hi
    have hk : n = i := by omega
    subst hk
    refine zz_iload dL_isAlgebra_351 rfl ?_
    refine zz_iload_n dL_isAlgebra_353 rfl ?_
    refine zz_icmp_ge (tgt := 419) dL_isAlgebra_354 (by decide) (fun _ => ?_) (fun h => absurd (nI_le (Nat.le_refl _) (by omega)) h)
    refine zz_lvl (lv2 := [(12, .int z12), (9, .int 1), (7, .int (nI b)), (6, .int (nI a)), (0, .ref 52), (1, .ref 57), (2, .int (nI n)), (3, .ref 54), (4, .ref 55), (5, .ref 56)]) ⟨rfl, rfl, rfl, rfl, rfl, rfl, rfl, rfl, rfl, rfl, trivial⟩ ?_
    exact K
  | succ m ih =>
    intro i hi
    have hk : i < n := by omega
    refine zz_iload dL_isAlgebra_351 rfl ?_
    refine zz_iload_n dL_isAlgebra_353 rfl ?_
    refine zz_icmp_ge (tgt := 419) dL_isAlgebra_354 (by decide) (fun h => absurd h (nI_ge (by omega) (by omega))) (fun _ => ?_)
    refine zz_iload dL_isAlgebra_357 rfl ?_
    refine zz_if_eq (tgt := 419) dL_isAlgebra_359 (by decide) (fun h => absurd h (by decide)) (fun _ => ?_)
    refine zz_iconst (v := 0) dL_isAlgebra_362 (by decide) ?_
    refine zz_istore dL_isAlgebra_363 (by decide) ?_
    refine zz_lvl (lv2 := [(14, .int (nI 0)), (13, .int (nI i)), (12, .int z12), (9, .int 1), (7, .int (nI b)), (6, .int (nI a)), (0, .ref 52), (1, .ref 57), (2, .int (nI n)), (3, .ref 54), (4, .ref 55), (5, .ref 56)]) ⟨rfl, rfl, rfl, rfl, rfl, rfl, rfl, rfl, rfl, rfl, rfl, rfl, trivial⟩ ?_
    refine al_365 hn hx hy hk _ _ ?_ n 0 (by omega)
    refine zz_iinc (v := nI (i + 1)) dL_isAlgebra_413 rfl (nI_1 i) (by decide) ?_
    refine zz_goto (tgt := 351) dL_isAlgebra_416 (by decide) ?_
    refine zz_lvl (lv2 := [(13, .int (nI (i + 1))), (12, .int z12), (9, .int 1), (7, .int (nI b)), (6, .int (nI a)), (0, .ref 52), (1, .ref 57), (2, .int (nI n)), (3, .ref 54), (4, .ref 55), (5, .ref 56)]) ⟨rfl, rfl, rfl, rfl, rfl, rfl, rfl, rfl, rfl, rfl, rfl, trivial⟩ ?_
    exact ih (i + 1) (by omega)
end ZYW2
