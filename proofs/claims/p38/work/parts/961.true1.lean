section ZYT1
variable {El : Nat → Int32} {Lo Hi : Nat → Nat → Int64} {BL BH : Nat → Int64} {Od : Nat → Nat → Int32} {Ls : Nat → Int32} {n : Nat} {R : Nat → Nat → Nat → Bool} {mk : Nat → Bool} {MB : Nat → Nat → Bool} {rho nu : Nat → Int32} {T : zz_St}
set_option maxHeartbeats 1000000 in
set_option maxRecDepth 20000 in
theorem tr_429 {r : Nat} (hr : r < 3) {X : Nat → Nat → Bool} {own : Bool} (hI : cI n El Lo Hi BL BH R mk) (eX : R r = X) (e3 : R 3 = X) (hg : gr n (MB 55) (clO X n own)) : zz_E mL_isTrue none 11 180 1080 (trQ n T) 429 [(14, .int (zB own)), (13, .int (nI (pn n X))), (9, .int 1), (7, .int (nI (pn n X))), (0, .ref 52), (1, .ref 57), (2, .int (nI r)), (3, .int (nI n)), (4, .ref 54), (5, .ref 55), (6, .ref 56)] [] (px El Lo Hi BL BH Od Ls (nI n) (pl MB rho nu T)) := by
  have hn := cI_n hI
  have h1 := cI_1 hI
  have hr4 : r < 4 := by omega
  have hr3 : r ≠ 3 := by omega
  have hsub : ∀ i k, i < n → k < n → X i k = true → (clO (clO X n own) n false) i k = true := fun i k hi hk q => by
    rw [clO_2 hi hk]
    exact clO_sub hi hk q
  have hpe : pn n (clO (clO X n own) n false) = pn n (clO X n own) := pn_c (fun i k hi hk => clO_2 hi hk)
  have hcm := cm_v hsub
  have hp1 := pn_6400 hn (clO X n own)
  have hp2 := pn_6400 hn X
  refine zz_aload_n dL_isTrue_429 rfl ?_
  refine zz_iconst (v := 3) dL_isTrue_430 (by decide) ?_
  refine zz_iload dL_isTrue_431 rfl ?_
  refine zz_callV (ci := 4) (y_close own e3 hI) dL_isTrue_433 zw_m_L_138 wYX4_close wDX4_close rfl (by omega) px_x rfl (Nat.le_of_ble_eq_true rfl) (by decide) (by omega) (by omega) rfl ?_ (fun E τ hE => by cases hE.1)
  rintro v1 τ1 ⟨hv1, El1, Lo1, Hi1, BL1, BH1, Od1, Ls1, hI1, rfl⟩
  cases hv1
  refine zz_istore dL_isTrue_436 (by decide) ?_
  refine zz_iload dL_isTrue_438 rfl ?_
  refine zz_if_eq (tgt := 538) dL_isTrue_440 (by decide) (fun h => absurd h (by decide)) (fun _ => ?_)
  refine zz_iload dL_isTrue_443 rfl ?_
  refine zz_iload dL_isTrue_445 rfl ?_
  refine zz_icmp_ne (tgt := 538) dL_isTrue_447 (by decide) (fun h => absurd rfl h) (fun _ => ?_)
  refine zz_aload_n dL_isTrue_450 rfl ?_
  refine zz_iconst (v := 3) dL_isTrue_451 (by decide) ?_
  refine zz_iload_n dL_isTrue_452 rfl ?_
  refine zz_aload dL_isTrue_453 rfl ?_
  refine zz_callS (y_sees (r := 3) (q := 56) (by omega) (by omega) (up_at _ _ _) hI1) dL_isTrue_455 zw_m_L_87 wYL_sees wDL_sees rfl (Nat.le_of_ble_eq_true rfl) (by decide) (by omega) (by omega) rfl ?_ (fun E τ hE => by obtain ⟨_, _, _, hE, _⟩ := hE; cases hE)
  rintro v2 τ2 ⟨MB2, hg2, hp2_, hv2, El2, Lo2, Hi2, BL2, BH2, Od2, Ls2, hI2, rfl⟩
  cases hv2
  have hab : ∀ i k, i < n → k < n → MB2 55 (80 * i + k) = MB2 56 (80 * i + k) := fun i k hi hk => by rw [hp2_ 55 (by omega), hg i k hi hk, hg2 i k hi hk]
  refine zz_iload dL_isTrue_458 rfl ?_
  refine zz_icmp_ne (tgt := 538) dL_isTrue_460 (by decide) (fun h => absurd rfl h) (fun _ => ?_)
  refine zz_aload dL_isTrue_463 rfl ?_
  refine zz_aload dL_isTrue_465 rfl ?_
  refine zz_iload_n dL_isTrue_467 rfl ?_
  refine zz_callS1 (k_isLike (q := 55) (w := 56) (by omega) (by omega) hn hab) dL_isTrue_468 zw_m_L_142 wYL_isLike wDL_isLike rfl (Nat.le_of_ble_eq_true rfl) (by decide) rfl ?_
  refine zz_if_eq (tgt := 538) dL_isTrue_471 (by decide) (fun h => absurd h (by decide)) (fun _ => ?_)
  refine zz_aload_n dL_isTrue_474 rfl ?_
  refine zz_iconst (v := 3) dL_isTrue_475 (by decide) ?_
  refine zz_iconst (v := 4) dL_isTrue_476 (by decide) ?_
  refine zz_callV (ci := 4) (y_is (w := 4) (by omega) (up_at _ _ _) clO_is4 hI2) dL_isTrue_477 zw_m_L_146 wYX4_is wDX4_is rfl (by omega) px_x rfl (Nat.le_of_ble_eq_true rfl) (by decide) (by omega) (by omega) rfl ?_ (fun E τ hE => by cases hE.1)
  rintro v3 τ3 ⟨hv3, El3, Lo3, Hi3, BL3, BH3, Od3, Ls3, hI3, rfl⟩
  cases hv3
  refine zz_if_eq (tgt := 538) dL_isTrue_480 (by decide) (fun h => absurd h (by decide)) (fun _ => ?_)
  refine zz_aload_n dL_isTrue_483 rfl ?_
  refine zz_iconst (v := 3) dL_isTrue_484 (by decide) ?_
  refine zz_iconst (v := 0) dL_isTrue_485 (by decide) ?_
  refine zz_callV (ci := 4) (y_close false (up_at _ _ _) hI3) dL_isTrue_486 zw_m_L_138 wYX4_close wDX4_close rfl (by omega) px_x rfl (Nat.le_of_ble_eq_true rfl) (by decide) (by omega) (by omega) rfl ?_ (fun E τ hE => by cases hE.1)
  rintro v4 τ4 ⟨hv4, El4, Lo4, Hi4, BL4, BH4, Od4, Ls4, hI4, rfl⟩
  cases hv4
  rw [up_up] at hI4
  refine zz_iload dL_isTrue_489 rfl ?_
  refine zz_icmp_ne (tgt := 538) dL_isTrue_491 (by decide) (fun h => absurd (by rw [hpe]) h) (fun _ => ?_)
  refine zz_iload dL_isTrue_494 rfl ?_
  refine zz_iload dL_isTrue_496 rfl ?_
  refine zz_icmp_ne (tgt := 505) dL_isTrue_498 (by decide) (fun h498 => ?_) (fun h498 => ?_)
  · refine zz_iconst (v := 0) dL_isTrue_505 (by decide) ?_
    refine zz_aload_n dL_isTrue_506 rfl ?_
    refine zz_iload_n dL_isTrue_507 rfl ?_
    refine zz_iconst (v := 3) dL_isTrue_508 (by decide) ?_
    refine zz_callV (ci := 4) (y_compare (X := X) hr4 ((up_ne _ _ hr3).trans eX) (up_at _ _ _) hI4) dL_isTrue_509 zw_m_L_150 wYX4_compare wDX4_compare rfl (by omega) px_x rfl (Nat.le_of_ble_eq_true rfl) (by decide) (by omega) (by omega) rfl ?_ (fun E τ hE => by cases hE.1)
    rintro v5 τ5 ⟨hv5, El5, Lo5, Hi5, BL5, BH5, Od5, Ls5, hI5, rfl⟩
    cases hv5
    refine zz_if_ne (tgt := 519) dL_isTrue_512 (by decide) (fun h512 => ?_) (fun h512 => ?_)
    · refine zz_iconst (v := 0) dL_isTrue_519 (by decide) ?_
      refine zz_icmp_ne (tgt := 538) dL_isTrue_520 (by decide) (fun h9 => absurd (by first | rfl | (exfalso; rcases hcm with ⟨q1, q2⟩ | ⟨q1, q2⟩ <;> first | exact h498 (by rw [← hpe, q1]) | exact h512 q2 | exact q1 (hpe.trans ((nI_eq (by omega) (by omega)).mp h498)) | (rw [q2] at h512; exact absurd h512 (by decide)))) h9) (fun _ => ?_)
      refine zz_aload_n dL_isTrue_523 rfl ?_
      refine zz_iload_n dL_isTrue_524 rfl ?_
      refine zz_iconst (v := 3) dL_isTrue_525 (by decide) ?_
      refine zz_callV (ci := 4) (y_compare (X := X) hr4 ((up_ne _ _ hr3).trans eX) (up_at _ _ _) hI5) dL_isTrue_526 zw_m_L_150 wYX4_compare wDX4_compare rfl (by omega) px_x rfl (Nat.le_of_ble_eq_true rfl) (by decide) (by omega) (by omega) rfl ?_ (fun E τ hE => by cases hE.1)
      rintro v6 τ6 ⟨hv6, El6, Lo6, Hi6, BL6, BH6, Od6, Ls6, hI6, rfl⟩
      cases hv6
      refine zz_iconst (v := 2) dL_isTrue_529 (by decide) ?_
      refine zz_irem dL_isTrue_530 ((by decide)) ?_
      refine zz_tope (y := 0) (by rcases hcm with ⟨_, q2⟩ | ⟨_, q2⟩ <;> rw [q2] <;> decide) ?_
      refine zz_if_ne (tgt := 538) dL_isTrue_531 (by decide) (fun h => absurd rfl h) (fun _ => ?_)
      refine zz_iconst (v := 1) dL_isTrue_534 (by decide) ?_
      refine zz_goto (tgt := 539) dL_isTrue_535 (by decide) ?_
      refine zz_istore dL_isTrue_539 (by decide) ?_
      refine zz_iload dL_isTrue_541 rfl ?_
      refine zz_if_eq (tgt := 564) dL_isTrue_543 (by decide) (fun h => absurd h (by decide)) (fun _ => ?_)
      refine zz_iload dL_isTrue_546 rfl ?_
      refine zz_if_eq (tgt := 560) dL_isTrue_548 (by decide) (fun h548 => ?_) (fun h548 => ?_)
      · refine zz_iconst (v := 1) dL_isTrue_560 (by decide) ?_
        refine zz_goto (tgt := 565) dL_isTrue_561 (by decide) ?_
        refine zz_zret dL_isTrue_565 rfl (by first | rfl | exact zB_nar _) ?_
        first | exact trQ_i hI7 | exact trQ_i hI6
      · refine zz_aload_n dL_isTrue_551 rfl ?_
        refine zz_iconst (v := 3) dL_isTrue_552 (by decide) ?_
        refine zz_iconst (v := 0) dL_isTrue_553 (by decide) ?_
        refine zz_callV (ci := 4) (y_is (w := 0) (by omega) (up_at _ _ _) (by rw [isV_c (fun i k hi hk => clO_2 (n := n) (X := X) (b := own) hi hk), zB_n.mp h548]; exact clO_is0) hI6) dL_isTrue_554 zw_m_L_146 wYX4_is wDX4_is rfl (by omega) px_x rfl (Nat.le_of_ble_eq_true rfl) (by decide) (by omega) (by omega) rfl ?_ (fun E τ hE => by cases hE.1)
        rintro v7 τ7 ⟨hv7, El7, Lo7, Hi7, BL7, BH7, Od7, Ls7, hI7, rfl⟩
        cases hv7
        refine zz_if_eq (tgt := 564) dL_isTrue_557 (by decide) (fun h => absurd h (by decide)) (fun _ => ?_)
        refine zz_iconst (v := 1) dL_isTrue_560 (by decide) ?_
        refine zz_goto (tgt := 565) dL_isTrue_561 (by decide) ?_
        refine zz_zret dL_isTrue_565 rfl (by first | rfl | exact zB_nar _) ?_
        first | exact trQ_i hI7 | exact trQ_i hI6
    · refine zz_iconst (v := 1) dL_isTrue_515 (by decide) ?_
      refine zz_goto (tgt := 520) dL_isTrue_516 (by decide) ?_
      refine zz_icmp_ne (tgt := 538) dL_isTrue_520 (by decide) (fun h9 => absurd (by first | rfl | (exfalso; rcases hcm with ⟨q1, q2⟩ | ⟨q1, q2⟩ <;> first | exact h498 (by rw [← hpe, q1]) | exact h512 q2 | exact q1 (hpe.trans ((nI_eq (by omega) (by omega)).mp h498)) | (rw [q2] at h512; exact absurd h512 (by decide)))) h9) (fun _ => ?_)
      refine zz_aload_n dL_isTrue_523 rfl ?_
      refine zz_iload_n dL_isTrue_524 rfl ?_
      refine zz_iconst (v := 3) dL_isTrue_525 (by decide) ?_
      refine zz_callV (ci := 4) (y_compare (X := X) hr4 ((up_ne _ _ hr3).trans eX) (up_at _ _ _) hI5) dL_isTrue_526 zw_m_L_150 wYX4_compare wDX4_compare rfl (by omega) px_x rfl (Nat.le_of_ble_eq_true rfl) (by decide) (by omega) (by omega) rfl ?_ (fun E τ hE => by cases hE.1)
      rintro v6 τ6 ⟨hv6, El6, Lo6, Hi6, BL6, BH6, Od6, Ls6, hI6, rfl⟩
      cases hv6
      refine zz_iconst (v := 2) dL_isTrue_529 (by decide) ?_
      refine zz_irem dL_isTrue_530 ((by decide)) ?_
      refine zz_tope (y := 0) (by rcases hcm with ⟨_, q2⟩ | ⟨_, q2⟩ <;> rw [q2] <;> decide) ?_
      refine zz_if_ne (tgt := 538) dL_isTrue_531 (by decide) (fun h => absurd rfl h) (fun _ => ?_)
      refine zz_iconst (v := 1) dL_isTrue_534 (by decide) ?_
      refine zz_goto (tgt := 539) dL_isTrue_535 (by decide) ?_
      refine zz_istore dL_isTrue_539 (by decide) ?_
      refine zz_iload dL_isTrue_541 rfl ?_
      refine zz_if_eq (tgt := 564) dL_isTrue_543 (by decide) (fun h => absurd h (by decide)) (fun _ => ?_)
      refine zz_iload dL_isTrue_546 rfl ?_
      refine zz_if_eq (tgt := 560) dL_isTrue_548 (by decide) (fun h548 => ?_) (fun h548 => ?_)
      · refine zz_iconst (v := 1) dL_isTrue_560 (by decide) ?_
        refine zz_goto (tgt := 565) dL_isTrue_561 (by decide) ?_
        refine zz_zret dL_isTrue_565 rfl (by first | rfl | exact zB_nar _) ?_
        first | exact trQ_i hI7 | exact trQ_i hI6
      · refine zz_aload_n dL_isTrue_551 rfl ?_
        refine zz_iconst (v := 3) dL_isTrue_552 (by decide) ?_
        refine zz_iconst (v := 0) dL_isTrue_553 (by decide) ?_
        refine zz_callV (ci := 4) (y_is (w := 0) (by omega) (up_at _ _ _) (by rw [isV_c (fun i k hi hk => clO_2 (n := n) (X := X) (b := own) hi hk), zB_n.mp h548]; exact clO_is0) hI6) dL_isTrue_554 zw_m_L_146 wYX4_is wDX4_is rfl (by omega) px_x rfl (Nat.le_of_ble_eq_true rfl) (by decide) (by omega) (by omega) rfl ?_ (fun E τ hE => by cases hE.1)
        rintro v7 τ7 ⟨hv7, El7, Lo7, Hi7, BL7, BH7, Od7, Ls7, hI7, rfl⟩
        cases hv7
        refine zz_if_eq (tgt := 564) dL_isTrue_557 (by decide) (fun h => absurd h (by decide)) (fun _ => ?_)
        refine zz_iconst (v := 1) dL_isTrue_560 (by decide) ?_
        refine zz_goto (tgt := 565) dL_isTrue_561 (by decide) ?_
        refine zz_zret dL_isTrue_565 rfl (by first | rfl | exact zB_nar _) ?_
        first | exact trQ_i hI7 | exact trQ_i hI6
  · refine zz_iconst (v := 1) dL_isTrue_501 (by decide) ?_
    refine zz_goto (tgt := 506) dL_isTrue_502 (by decide) ?_
    refine zz_aload_n dL_isTrue_506 rfl ?_
    refine zz_iload_n dL_isTrue_507 rfl ?_
    refine zz_iconst (v := 3) dL_isTrue_508 (by decide) ?_
    refine zz_callV (ci := 4) (y_compare (X := X) hr4 ((up_ne _ _ hr3).trans eX) (up_at _ _ _) hI4) dL_isTrue_509 zw_m_L_150 wYX4_compare wDX4_compare rfl (by omega) px_x rfl (Nat.le_of_ble_eq_true rfl) (by decide) (by omega) (by omega) rfl ?_ (fun E τ hE => by cases hE.1)
    rintro v5 τ5 ⟨hv5, El5, Lo5, Hi5, BL5, BH5, Od5, Ls5, hI5, rfl⟩
    cases hv5
    refine zz_if_ne (tgt := 519) dL_isTrue_512 (by decide) (fun h512 => ?_) (fun h512 => ?_)
    · refine zz_iconst (v := 0) dL_isTrue_519 (by decide) ?_
      refine zz_icmp_ne (tgt := 538) dL_isTrue_520 (by decide) (fun h9 => absurd (by first | rfl | (exfalso; rcases hcm with ⟨q1, q2⟩ | ⟨q1, q2⟩ <;> first | exact h498 (by rw [← hpe, q1]) | exact h512 q2 | exact q1 (hpe.trans ((nI_eq (by omega) (by omega)).mp h498)) | (rw [q2] at h512; exact absurd h512 (by decide)))) h9) (fun _ => ?_)
      refine zz_aload_n dL_isTrue_523 rfl ?_
      refine zz_iload_n dL_isTrue_524 rfl ?_
      refine zz_iconst (v := 3) dL_isTrue_525 (by decide) ?_
      refine zz_callV (ci := 4) (y_compare (X := X) hr4 ((up_ne _ _ hr3).trans eX) (up_at _ _ _) hI5) dL_isTrue_526 zw_m_L_150 wYX4_compare wDX4_compare rfl (by omega) px_x rfl (Nat.le_of_ble_eq_true rfl) (by decide) (by omega) (by omega) rfl ?_ (fun E τ hE => by cases hE.1)
      rintro v6 τ6 ⟨hv6, El6, Lo6, Hi6, BL6, BH6, Od6, Ls6, hI6, rfl⟩
      cases hv6
      refine zz_iconst (v := 2) dL_isTrue_529 (by decide) ?_
      refine zz_irem dL_isTrue_530 ((by decide)) ?_
      refine zz_tope (y := 0) (by rcases hcm with ⟨_, q2⟩ | ⟨_, q2⟩ <;> rw [q2] <;> decide) ?_
      refine zz_if_ne (tgt := 538) dL_isTrue_531 (by decide) (fun h => absurd rfl h) (fun _ => ?_)
      refine zz_iconst (v := 1) dL_isTrue_534 (by decide) ?_
      refine zz_goto (tgt := 539) dL_isTrue_535 (by decide) ?_
      refine zz_istore dL_isTrue_539 (by decide) ?_
      refine zz_iload dL_isTrue_541 rfl ?_
      refine zz_if_eq (tgt := 564) dL_isTrue_543 (by decide) (fun h => absurd h (by decide)) (fun _ => ?_)
      refine zz_iload dL_isTrue_546 rfl ?_
      refine zz_if_eq (tgt := 560) dL_isTrue_548 (by decide) (fun h548 => ?_) (fun h548 => ?_)
      · refine zz_iconst (v := 1) dL_isTrue_560 (by decide) ?_
        refine zz_goto (tgt := 565) dL_isTrue_561 (by decide) ?_
        refine zz_zret dL_isTrue_565 rfl (by first | rfl | exact zB_nar _) ?_
        first | exact trQ_i hI7 | exact trQ_i hI6
      · refine zz_aload_n dL_isTrue_551 rfl ?_
        refine zz_iconst (v := 3) dL_isTrue_552 (by decide) ?_
        refine zz_iconst (v := 0) dL_isTrue_553 (by decide) ?_
        refine zz_callV (ci := 4) (y_is (w := 0) (by omega) (up_at _ _ _) (by rw [isV_c (fun i k hi hk => clO_2 (n := n) (X := X) (b := own) hi hk), zB_n.mp h548]; exact clO_is0) hI6) dL_isTrue_554 zw_m_L_146 wYX4_is wDX4_is rfl (by omega) px_x rfl (Nat.le_of_ble_eq_true rfl) (by decide) (by omega) (by omega) rfl ?_ (fun E τ hE => by cases hE.1)
        rintro v7 τ7 ⟨hv7, El7, Lo7, Hi7, BL7, BH7, Od7, Ls7, hI7, rfl⟩
        cases hv7
        refine zz_if_eq (tgt := 564) dL_isTrue_557 (by decide) (fun h => absurd h (by decide)) (fun _ => ?_)
        refine zz_iconst (v := 1) dL_isTrue_560 (by decide) ?_
        refine zz_goto (tgt := 565) dL_isTrue_561 (by decide) ?_
        refine zz_zret dL_isTrue_565 rfl (by first | rfl | exact zB_nar _) ?_
        first | exact trQ_i hI7 | exact trQ_i hI6
    · refine zz_iconst (v := 1) dL_isTrue_515 (by decide) ?_
      refine zz_goto (tgt := 520) dL_isTrue_516 (by decide) ?_
      refine zz_icmp_ne (tgt := 538) dL_isTrue_520 (by decide) (fun h9 => absurd (by first | rfl | (exfalso; rcases hcm with ⟨q1, q2⟩ | ⟨q1, q2⟩ <;> first | exact h498 (by rw [← hpe, q1]) | exact h512 q2 | exact q1 (hpe.trans ((nI_eq (by omega) (by omega)).mp h498)) | (rw [q2] at h512; exact absurd h512 (by decide)))) h9) (fun _ => ?_)
      refine zz_aload_n dL_isTrue_523 rfl ?_
      refine zz_iload_n dL_isTrue_524 rfl ?_
      refine zz_iconst (v := 3) dL_isTrue_525 (by decide) ?_
      refine zz_callV (ci := 4) (y_compare (X := X) hr4 ((up_ne _ _ hr3).trans eX) (up_at _ _ _) hI5) dL_isTrue_526 zw_m_L_150 wYX4_compare wDX4_compare rfl (by omega) px_x rfl (Nat.le_of_ble_eq_true rfl) (by decide) (by omega) (by omega) rfl ?_ (fun E τ hE => by cases hE.1)
      rintro v6 τ6 ⟨hv6, El6, Lo6, Hi6, BL6, BH6, Od6, Ls6, hI6, rfl⟩
      cases hv6
      refine zz_iconst (v := 2) dL_isTrue_529 (by decide) ?_
      refine zz_irem dL_isTrue_530 ((by decide)) ?_
      refine zz_tope (y := 0) (by rcases hcm with ⟨_, q2⟩ | ⟨_, q2⟩ <;> rw [q2] <;> decide) ?_
      refine zz_if_ne (tgt := 538) dL_isTrue_531 (by decide) (fun h => absurd rfl h) (fun _ => ?_)
      refine zz_iconst (v := 1) dL_isTrue_534 (by decide) ?_
      refine zz_goto (tgt := 539) dL_isTrue_535 (by decide) ?_
      refine zz_istore dL_isTrue_539 (by decide) ?_
      refine zz_iload dL_isTrue_541 rfl ?_
      refine zz_if_eq (tgt := 564) dL_isTrue_543 (by decide) (fun h => absurd h (by decide)) (fun _ => ?_)
      refine zz_iload dL_isTrue_546 rfl ?_
      refine zz_if_eq (tgt := 560) dL_isTrue_548 (by decide) (fun h548 => ?_) (fun h548 => ?_)
      · refine zz_iconst (v := 1) dL_isTrue_560 (by decide) ?_
        refine zz_goto (tgt := 565) dL_isTrue_561 (by decide) ?_
        refine zz_zret dL_isTrue_565 rfl (by first | rfl | exact zB_nar _) ?_
        first | exact trQ_i hI7 | exact trQ_i hI6
      · refine zz_aload_n dL_isTrue_551 rfl ?_
        refine zz_iconst (v := 3) dL_isTrue_552 (by decide) ?_
        refine zz_iconst (v := 0) dL_isTrue_553 (by decide) ?_
        refine zz_callV (ci := 4) (y_is (w := 0) (by omega) (up_at _ _ _) (by rw [isV_c (fun i k hi hk => clO_2 (n := n) (X := X) (b := own) hi hk), zB_n.mp h548]; exact clO_is0) hI6) dL_isTrue_554 zw_m_L_146 wYX4_is wDX4_is rfl (by omega) px_x rfl (Nat.le_of_ble_eq_true rfl) (by decide) (by omega) (by omega) rfl ?_ (fun E τ hE => by cases hE.1)
        rintro v7 τ7 ⟨hv7, El7, Lo7, Hi7, BL7, BH7, Od7, Ls7, hI7, rfl⟩
        cases hv7
        refine zz_if_eq (tgt := 564) dL_isTrue_557 (by decide) (fun h => absurd h (by decide)) (fun _ => ?_)
        refine zz_iconst (v := 1) dL_isTrue_560 (by decide) ?_
        refine zz_goto (tgt := 565) dL_isTrue_561 (by decide) ?_
        refine zz_zret dL_isTrue_565 rfl (by first | rfl | exact zB_nar _) ?_
        first | exact trQ_i hI7 | exact trQ_i hI6
set_option maxHeartbeats 1000000 in
set_option maxRecDepth 20000 in
theorem tr_403 {r : Nat} {X : Nat → Nat → Bool} {own : Bool} (hn : n ≤ 80) (rc rz : Nat) (K : ∀ MB : Nat → Nat → Bool, gr n (MB 55) (clO X n own) → zz_E mL_isTrue none 11 rc rz (trQ n T) 429 [(14, .int (zB own)), (13, .int (nI (pn n X))), (9, .int 1), (7, .int (nI (pn n X))), (0, .ref 52), (1, .ref 57), (2, .int (nI r)), (3, .int (nI n)), (4, .ref 54), (5, .ref 55), (6, .ref 56)] [] (px El Lo Hi BL BH Od Ls (nI n) (pl MB rho nu T))) : ∀ (m i : Nat), i + m = n → ∀ MB : Nat → Nat → Bool, (∀ x y, x < n → y < n → MB 55 (80 * x + y) = (rchB X n x y || (own && (decide (x = y) && decide (x < i))))) → zz_E mL_isTrue none 11 rc rz (trQ n T) 403 [(15, .int (nI i)), (14, .int (zB own)), (13, .int (nI (pn n X))), (9, .int 1), (7, .int (nI (pn n X))), (0, .ref 52), (1, .ref 57), (2, .int (nI r)), (3, .int (nI n)), (4, .ref 54), (5, .ref 55), (6, .ref 56)] [] (px El Lo Hi BL BH Od Ls (nI n) (pl MB rho nu T)) := by
  intro m
  induction m with
  | zero =>
    intro i hi MB hg
    have hk : n = i := by omega
    subst hk
    refine zz_iload dL_isTrue_403 rfl ?_
    refine zz_iload_n dL_isTrue_405 rfl ?_
    refine zz_icmp_ge (tgt := 429) dL_isTrue_406 (by decide) (fun _ => ?_) (fun h => absurd (nI_le (Nat.le_refl _) (by omega)) h)
    refine zz_lvl (lv2 := [(14, .int (zB own)), (13, .int (nI (pn n X))), (9, .int 1), (7, .int (nI (pn n X))), (0, .ref 52), (1, .ref 57), (2, .int (nI r)), (3, .int (nI n)), (4, .ref 54), (5, .ref 55), (6, .ref 56)]) ⟨rfl, rfl, rfl, rfl, rfl, rfl, rfl, rfl, rfl, rfl, rfl, trivial⟩ ?_
    exact K MB (fun x y hx hy => by
      rw [hg x y hx hy, decide_eq_true hx, Bool.and_true]
      rfl)
  | succ m ih =>
    intro i hi MB hg
    have hk : i < n := by omega
    refine zz_iload dL_isTrue_403 rfl ?_
    refine zz_iload_n dL_isTrue_405 rfl ?_
    refine zz_icmp_ge (tgt := 429) dL_isTrue_406 (by decide) (fun h => absurd h (nI_ge (by omega) (by omega))) (fun _ => ?_)
    refine zz_iload dL_isTrue_409 rfl ?_
    refine zz_if_eq (tgt := 429) dL_isTrue_411 (by decide) (fun h411 => ?_) (fun h411 => ?_)
    · refine zz_lvl (lv2 := [(14, .int (zB own)), (13, .int (nI (pn n X))), (9, .int 1), (7, .int (nI (pn n X))), (0, .ref 52), (1, .ref 57), (2, .int (nI r)), (3, .int (nI n)), (4, .ref 54), (5, .ref 55), (6, .ref 56)]) ⟨rfl, rfl, rfl, rfl, rfl, rfl, rfl, rfl, rfl, rfl, rfl, trivial⟩ ?_
      exact K MB (fun x y hx hy => by
        rw [hg x y hx hy, zB_0.mp h411]
        show _ = (rchB X n x y || (false && decide (x = y)))
        rw [Bool.false_and, Bool.false_and])
    · refine zz_aload dL_isTrue_414 rfl ?_
      refine zz_bipush (v := 81) dL_isTrue_416 (by decide) ?_
      refine zz_iload dL_isTrue_418 rfl ?_
      refine zz_imul dL_isTrue_420 ?_
      refine zz_tope (y := nI (81 * i)) (by simp only [i80, i81, pk_mul, nI_add, nI_1]) ?_
      refine zz_iconst (v := 1) dL_isTrue_421 (by decide) ?_
      refine zs_qb (b := true) dL_isTrue_422 (by omega) (by omega) ?_
      refine zz_iinc (v := nI (i + 1)) dL_isTrue_423 rfl (nI_1 i) (by decide) ?_
      refine zz_goto (tgt := 403) dL_isTrue_426 (by decide) ?_
      refine zz_lvl (lv2 := [(15, .int (nI (i + 1))), (14, .int (zB own)), (13, .int (nI (pn n X))), (9, .int 1), (7, .int (nI (pn n X))), (0, .ref 52), (1, .ref 57), (2, .int (nI r)), (3, .int (nI n)), (4, .ref 54), (5, .ref 55), (6, .ref 56)]) ⟨rfl, rfl, rfl, rfl, rfl, rfl, rfl, rfl, rfl, rfl, rfl, rfl, trivial⟩ ?_
      refine ih (i + 1) (by omega) _ (fun x y hx hy => ?_)
      rw [up_at]
      have ho := zB_n.mp h411
      by_cases e : x = i ∧ y = i
      · obtain ⟨e1, e2⟩ := e
        rw [e1, e2, show 80 * i + i = 81 * i by omega, up_at, ho, decide_eq_true rfl, decide_eq_true (Nat.lt_succ_self i), Bool.and_self, Bool.and_self, Bool.or_true]
      · rw [up_ne _ _ (fun q => e (gx (by omega) (by omega) (q.trans (show 81 * i = 80 * i + i by omega)))), hg x y hx hy]
        by_cases e1 : x = y
        · rw [show decide (x < i) = decide (x < i + 1) from decide_eq_decide.mpr ⟨fun _ => by omega, fun _ => by omega⟩]
        · rw [decide_eq_false e1, Bool.false_and, Bool.false_and]
set_option maxHeartbeats 1000000 in
set_option maxRecDepth 20000 in
theorem tr_376 {r : Nat} (hr : r < 3) {X : Nat → Nat → Bool} (hI : cI n El Lo Hi BL BH R mk) (eX : R r = X) (hg : gr n (MB 55) (rchB X n)) : zz_E mL_isTrue none 11 200 1200 (trQ n T) 376 [(9, .int 1), (7, .int (nI (pn n X))), (0, .ref 52), (1, .ref 57), (2, .int (nI r)), (3, .int (nI n)), (4, .ref 54), (5, .ref 55), (6, .ref 56)] [] (px El Lo Hi BL BH Od Ls (nI n) (pl MB rho nu T)) := by
  have hn := cI_n hI
  have h1 := cI_1 hI
  have hr4 : r < 4 := by omega
  have hr3 : r ≠ 3 := by omega
  refine zz_aload_n dL_isTrue_376 rfl ?_
  refine zz_iload_n dL_isTrue_377 rfl ?_
  refine zz_iconst (v := 3) dL_isTrue_378 (by decide) ?_
  refine zz_callV (ci := 4) (y_copy hr4 eX hI) dL_isTrue_379 zw_m_L_135 wYX4_copy wDX4_copy rfl (by omega) px_x rfl (Nat.le_of_ble_eq_true rfl) (by decide) (by omega) (by omega) rfl ?_ (fun E τ hE => by cases hE.1)
  rintro v1 τ1 ⟨hv1, El1, Lo1, Hi1, BL1, BH1, Od1, Ls1, hI1, rfl⟩
  cases hv1
  refine zz_istore dL_isTrue_382 (by decide) ?_
  refine zz_aload_n dL_isTrue_384 rfl ?_
  refine zz_callS (c_next) dL_isTrue_385 zw_m_L_8 wYL_next wDL_next rfl (Nat.le_of_ble_eq_true rfl) (by decide) (by omega) (by omega) rfl ?_ (fun E τ hE => by obtain ⟨_, _, _, hE, _⟩ := hE; cases hE)
  rintro v2 τ2 ⟨m2, rho2, hm2, hv2, rfl⟩
  cases hv2
  refine zz_iconst (v := 3) dL_isTrue_388 (by decide) ?_
  refine zz_irem dL_isTrue_389 ((by decide)) ?_
  refine zz_tope (y := nI (m2 % 3)) (pk_rem (d := 3) (by omega) (by omega) (by omega)) ?_
  refine zz_if_ne (tgt := 397) dL_isTrue_390 (by decide) (fun h390 => ?_) (fun h390 => ?_)
  · refine zz_iconst (v := 0) dL_isTrue_397 (by decide) ?_
    refine zz_topz (b := decide (m2 % 3 = 0)) (by first | (rw [decide_eq_true ((nI_eq (a := m2 % 3) (b := 0) (by omega) (by omega)).mp h390)]; rfl) | (rw [decide_eq_false (fun q => h390 (by rw [q]; rfl))]; rfl)) ?_
    generalize decide (m2 % 3 = 0) = own
    refine zz_istore dL_isTrue_398 (by decide) ?_
    refine zz_iconst (v := 0) dL_isTrue_400 (by decide) ?_
    refine zz_istore dL_isTrue_401 (by decide) ?_
    refine zz_less (rc1 := 180) (rz1 := 1080) (by omega) (by omega) ?_
    refine zz_lvl (lv2 := [(15, .int (nI 0)), (14, .int (zB own)), (13, .int (nI (pn n X))), (9, .int 1), (7, .int (nI (pn n X))), (0, .ref 52), (1, .ref 57), (2, .int (nI r)), (3, .int (nI n)), (4, .ref 54), (5, .ref 55), (6, .ref 56)]) ⟨rfl, rfl, rfl, rfl, rfl, rfl, rfl, rfl, rfl, rfl, rfl, rfl, trivial⟩ ?_
    exact tr_403 hn _ _ (fun MB9 hg9 => tr_429 hr hI1 ((up_ne _ _ hr3).trans eX) (up_at _ _ _) hg9) n 0 (by omega) MB (fun x y hx hy => by
      rw [hg x y hx hy, decide_eq_false (Nat.not_lt_zero x), Bool.and_false, Bool.and_false, Bool.or_false])
  · refine zz_iconst (v := 1) dL_isTrue_393 (by decide) ?_
    refine zz_goto (tgt := 398) dL_isTrue_394 (by decide) ?_
    refine zz_topz (b := decide (m2 % 3 = 0)) (by first | (rw [decide_eq_true ((nI_eq (a := m2 % 3) (b := 0) (by omega) (by omega)).mp h390)]; rfl) | (rw [decide_eq_false (fun q => h390 (by rw [q]; rfl))]; rfl)) ?_
    generalize decide (m2 % 3 = 0) = own
    refine zz_istore dL_isTrue_398 (by decide) ?_
    refine zz_iconst (v := 0) dL_isTrue_400 (by decide) ?_
    refine zz_istore dL_isTrue_401 (by decide) ?_
    refine zz_less (rc1 := 180) (rz1 := 1080) (by omega) (by omega) ?_
    refine zz_lvl (lv2 := [(15, .int (nI 0)), (14, .int (zB own)), (13, .int (nI (pn n X))), (9, .int 1), (7, .int (nI (pn n X))), (0, .ref 52), (1, .ref 57), (2, .int (nI r)), (3, .int (nI n)), (4, .ref 54), (5, .ref 55), (6, .ref 56)]) ⟨rfl, rfl, rfl, rfl, rfl, rfl, rfl, rfl, rfl, rfl, rfl, rfl, trivial⟩ ?_
    exact tr_403 hn _ _ (fun MB9 hg9 => tr_429 hr hI1 ((up_ne _ _ hr3).trans eX) (up_at _ _ _) hg9) n 0 (by omega) MB (fun x y hx hy => by
      rw [hg x y hx hy, decide_eq_false (Nat.not_lt_zero x), Bool.and_false, Bool.and_false, Bool.or_false])
end ZYT1
