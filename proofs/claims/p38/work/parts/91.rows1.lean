section ZYR1
variable {El : Nat → Int32} {Lo Hi : Nat → Nat → Int64} {BL BH : Nat → Int64} {Od : Nat → Nat → Int32} {Ls : Nat → Int32} {n : Nat} {R : Nat → Nat → Nat → Bool} {mk : Nat → Bool} {MB : Nat → Nat → Bool} {rho nu : Nat → Int32} {T : zz_St}
set_option maxHeartbeats 1000000 in
set_option maxRecDepth 20000 in
theorem ar_396 {r a b : Nat} (ha : a < n) (hb : b < n) (hn : n ≤ 80) (hg : gr n (MB 54) (R r)) (rc rz : Nat) (K : zz_E mL_areRows none 9 rc rz (trQ n T) 446 [(16, .int (zB (anb (fun k => R r a k && R r b k) n))), (15, .int (nI b)), (13, .int 1), (7, .int (nI a)), (0, .ref 52), (1, .ref 57), (2, .int (nI r)), (3, .int (nI n)), (4, .ref 54), (5, .ref 55)] [] (px El Lo Hi BL BH Od Ls (nI n) (pl MB rho nu T))) : ∀ (m i : Nat), i + m = n → zz_E mL_areRows none 9 rc rz (trQ n T) 396 [(17, .int (nI i)), (16, .int (zB (anb (fun k => R r a k && R r b k) i))), (15, .int (nI b)), (13, .int 1), (7, .int (nI a)), (0, .ref 52), (1, .ref 57), (2, .int (nI r)), (3, .int (nI n)), (4, .ref 54), (5, .ref 55)] [] (px El Lo Hi BL BH Od Ls (nI n) (pl MB rho nu T)) := by
  intro m
  induction m with
  | zero =>
    intro i hi
    have hk : n = i := by omega
    subst hk
    refine zz_iload dL_areRows_396 rfl ?_
    refine zz_iload_n dL_areRows_398 rfl ?_
    refine zz_icmp_ge (tgt := 446) dL_areRows_399 (by decide) (fun _ => ?_) (fun h => absurd (nI_le (Nat.le_refl _) (by omega)) h)
    refine zz_lvl (lv2 := [(16, .int (zB (anb (fun k => R r a k && R r b k) i))), (15, .int (nI b)), (13, .int 1), (7, .int (nI a)), (0, .ref 52), (1, .ref 57), (2, .int (nI r)), (3, .int (nI n)), (4, .ref 54), (5, .ref 55)]) ⟨rfl, rfl, rfl, rfl, rfl, rfl, rfl, rfl, rfl, rfl, trivial⟩ ?_
    exact K
  | succ m ih =>
    intro i hi
    have hk : i < n := by omega
    refine zz_iload dL_areRows_396 rfl ?_
    refine zz_iload_n dL_areRows_398 rfl ?_
    refine zz_icmp_ge (tgt := 446) dL_areRows_399 (by decide) (fun h => absurd h (nI_ge (by omega) (by omega))) (fun _ => ?_)
    refine zz_iload dL_areRows_402 rfl ?_
    refine zz_aload dL_areRows_404 rfl ?_
    refine zz_bipush (v := 80) dL_areRows_406 (by decide) ?_
    refine zz_iload dL_areRows_408 rfl ?_
    refine zz_imul dL_areRows_410 ?_
    refine zz_iload dL_areRows_411 rfl ?_
    refine zz_iadd dL_areRows_413 ?_
    refine zz_tope (y := nI (80 * a + i)) (by simp only [i80, i81, pk_mul, nI_add, nI_1]) ?_
    refine zl_qb dL_areRows_414 (by omega) (by omega) ?_
    rw [hg a i ha hk]
    refine zz_if_eq (tgt := 436) dL_areRows_415 (by decide) (fun h415 => ?_) (fun h415 => ?_)
    · refine zz_iconst (v := 0) dL_areRows_436 (by decide) ?_
      refine zz_topz (b := R r a i && R r b i) (by
        first | (rw [zB_0.mp h415]; rfl) | (rw [zB_n.mp h415, zB_0.mp h429]; rfl) | (rw [zB_n.mp h415, zB_n.mp h429]; rfl)) ?_
      refine zz_ior dL_areRows_437 ?_
      refine zz_topz (b := anb (fun k => R r a k && R r b k) (i + 1)) (by rw [zB_or]; rfl) ?_
      refine zz_istore dL_areRows_438 (by decide) ?_
      refine zz_iinc (v := nI (i + 1)) dL_areRows_440 rfl (nI_1 i) (by decide) ?_
      refine zz_goto (tgt := 396) dL_areRows_443 (by decide) ?_
      refine zz_lvl (lv2 := [(17, .int (nI (i + 1))), (16, .int (zB (anb (fun k => R r a k && R r b k) (i + 1)))), (15, .int (nI b)), (13, .int 1), (7, .int (nI a)), (0, .ref 52), (1, .ref 57), (2, .int (nI r)), (3, .int (nI n)), (4, .ref 54), (5, .ref 55)]) ⟨rfl, rfl, rfl, rfl, rfl, rfl, rfl, rfl, rfl, rfl, rfl, trivial⟩ ?_
      exact ih (i + 1) (by omega)
    · refine zz_aload dL_areRows_418 rfl ?_
      refine zz_bipush (v := 80) dL_areRows_420 (by decide) ?_
      refine zz_iload dL_areRows_422 rfl ?_
      refine zz_imul dL_areRows_424 ?_
      refine zz_iload dL_areRows_425 rfl ?_
      refine zz_iadd dL_areRows_427 ?_
      refine zz_tope (y := nI (80 * b + i)) (by simp only [i80, i81, pk_mul, nI_add, nI_1]) ?_
      refine zl_qb dL_areRows_428 (by omega) (by omega) ?_
      rw [hg b i hb hk]
      refine zz_if_eq (tgt := 436) dL_areRows_429 (by decide) (fun h429 => ?_) (fun h429 => ?_)
      · refine zz_iconst (v := 0) dL_areRows_436 (by decide) ?_
        refine zz_topz (b := R r a i && R r b i) (by
          first | (rw [zB_0.mp h415]; rfl) | (rw [zB_n.mp h415, zB_0.mp h429]; rfl) | (rw [zB_n.mp h415, zB_n.mp h429]; rfl)) ?_
        refine zz_ior dL_areRows_437 ?_
        refine zz_topz (b := anb (fun k => R r a k && R r b k) (i + 1)) (by rw [zB_or]; rfl) ?_
        refine zz_istore dL_areRows_438 (by decide) ?_
        refine zz_iinc (v := nI (i + 1)) dL_areRows_440 rfl (nI_1 i) (by decide) ?_
        refine zz_goto (tgt := 396) dL_areRows_443 (by decide) ?_
        refine zz_lvl (lv2 := [(17, .int (nI (i + 1))), (16, .int (zB (anb (fun k => R r a k && R r b k) (i + 1)))), (15, .int (nI b)), (13, .int 1), (7, .int (nI a)), (0, .ref 52), (1, .ref 57), (2, .int (nI r)), (3, .int (nI n)), (4, .ref 54), (5, .ref 55)]) ⟨rfl, rfl, rfl, rfl, rfl, rfl, rfl, rfl, rfl, rfl, rfl, trivial⟩ ?_
        exact ih (i + 1) (by omega)
      · refine zz_iconst (v := 1) dL_areRows_432 (by decide) ?_
        refine zz_goto (tgt := 437) dL_areRows_433 (by decide) ?_
        refine zz_topz (b := R r a i && R r b i) (by
          first | (rw [zB_0.mp h415]; rfl) | (rw [zB_n.mp h415, zB_0.mp h429]; rfl) | (rw [zB_n.mp h415, zB_n.mp h429]; rfl)) ?_
        refine zz_ior dL_areRows_437 ?_
        refine zz_topz (b := anb (fun k => R r a k && R r b k) (i + 1)) (by rw [zB_or]; rfl) ?_
        refine zz_istore dL_areRows_438 (by decide) ?_
        refine zz_iinc (v := nI (i + 1)) dL_areRows_440 rfl (nI_1 i) (by decide) ?_
        refine zz_goto (tgt := 396) dL_areRows_443 (by decide) ?_
        refine zz_lvl (lv2 := [(17, .int (nI (i + 1))), (16, .int (zB (anb (fun k => R r a k && R r b k) (i + 1)))), (15, .int (nI b)), (13, .int 1), (7, .int (nI a)), (0, .ref 52), (1, .ref 57), (2, .int (nI r)), (3, .int (nI n)), (4, .ref 54), (5, .ref 55)]) ⟨rfl, rfl, rfl, rfl, rfl, rfl, rfl, rfl, rfl, rfl, rfl, trivial⟩ ?_
        exact ih (i + 1) (by omega)
set_option maxHeartbeats 1000000 in
set_option maxRecDepth 20000 in
theorem ar_382 {r a : Nat} (hr : r < 4) (ha : a < n) (hI : cI n El Lo Hi BL BH R mk) (hg : gr n (MB 54) (R r)) : zz_E mL_areRows none 9 4 24 (trQ n T) 382 [(13, .int 1), (7, .int (nI a)), (0, .ref 52), (1, .ref 57), (2, .int (nI r)), (3, .int (nI n)), (4, .ref 54), (5, .ref 55)] [] (px El Lo Hi BL BH Od Ls (nI n) (pl MB rho nu T)) := by
  have hn := cI_n hI
  have h1 := cI_1 hI
  refine zz_aload_n dL_areRows_382 rfl ?_
  refine zz_callS (c_next) dL_areRows_383 zw_m_L_8 wYL_next wDL_next rfl (Nat.le_of_ble_eq_true rfl) (by decide) (by omega) (by omega) rfl ?_ (fun E τ hE => by obtain ⟨_, _, _, hE, _⟩ := hE; cases hE)
  rintro v1 τ1 ⟨m1, rho1, hm1, hv1, rfl⟩
  cases hv1
  refine zz_iload_n dL_areRows_386 rfl ?_
  refine zz_irem dL_areRows_387 (nI_ne0 (by omega) (by omega)) ?_
  refine zz_tope (y := nI (m1 % n)) (pk_rem (by omega) (by omega) (by omega)) ?_
  obtain ⟨b, hb, eb⟩ : ∃ b, b < n ∧ m1 % n = b := ⟨_, Nat.mod_lt _ (by omega), rfl⟩
  rw [eb]
  refine zz_istore dL_areRows_388 (by decide) ?_
  refine zz_iconst (v := 0) dL_areRows_390 (by decide) ?_
  refine zz_istore dL_areRows_391 (by decide) ?_
  refine zz_iconst (v := 0) dL_areRows_393 (by decide) ?_
  refine zz_istore dL_areRows_394 (by decide) ?_
  refine zz_lvl (lv2 := [(17, .int (nI 0)), (16, .int (zB (anb (fun k => R r a k && R r b k) 0))), (15, .int (nI b)), (13, .int 1), (7, .int (nI a)), (0, .ref 52), (1, .ref 57), (2, .int (nI r)), (3, .int (nI n)), (4, .ref 54), (5, .ref 55)]) ⟨rfl, rfl, rfl, rfl, rfl, rfl, rfl, rfl, rfl, rfl, rfl, trivial⟩ ?_
  refine ar_396 ha hb hn hg _ _ ?_ n 0 (by omega)
  refine zz_iload dL_areRows_446 rfl ?_
  refine zz_if_eq (tgt := 529) dL_areRows_448 (by decide) (fun h => absurd h (by decide)) (fun _ => ?_)
  refine zz_aload_n dL_areRows_451 rfl ?_
  refine zz_iload_n dL_areRows_452 rfl ?_
  refine zz_iload dL_areRows_453 rfl ?_
  refine zz_iload_n dL_areRows_455 rfl ?_
  refine zz_iload dL_areRows_456 rfl ?_
  refine zz_callV (ci := 4) (x_meet_v (r := r) (w := r) hr ha hr hb hI) dL_areRows_458 zw_m_L_172 wYX4_meet wDX4_meet rfl (by omega) px_x rfl (Nat.le_of_ble_eq_true rfl) (by decide) (by omega) (by omega) rfl ?_ (fun E τ hE => by cases hE.1)
  rintro v1 τ1 ⟨hv1, El1, Lo1, Hi1, BL1, BH1, Od1, Ls1, hI1, rfl⟩
  cases hv1
  refine zz_iload dL_areRows_461 rfl ?_
  refine zz_icmp_ne (tgt := 529) dL_areRows_463 (by decide) (fun h => absurd rfl h) (fun _ => ?_)
  refine zz_aload_n dL_areRows_466 rfl ?_
  refine zz_iload_n dL_areRows_467 rfl ?_
  refine zz_iload dL_areRows_468 rfl ?_
  refine zz_iload dL_areRows_470 rfl ?_
  refine zz_iconst (v := 1) dL_areRows_472 (by decide) ?_
  refine zz_callV (ci := 4) (x_set_v (r := r) hr ha hb true hI1) dL_areRows_473 zw_m_L_176 wYX4_set wDX4_set rfl (by omega) px_x rfl (Nat.le_of_ble_eq_true rfl) (by decide) (by omega) (by omega) rfl ?_ (fun E τ hE => by cases hE.1)
  rintro v2 τ2 ⟨hv2, El2, Lo2, Hi2, BL2, BH2, Od2, Ls2, hI2, rfl⟩
  cases hv2
  have hset : va_up R r (va_up (R r) a (ptS (R r a) b (b + 1) true)) r a b = true := by
    rw [up_at, up_at]
    exact if_pos ⟨Nat.le_refl b, Nat.lt_succ_self b⟩
  refine zz_aload dL_areRows_476 rfl ?_
  refine zz_bipush (v := 80) dL_areRows_478 (by decide) ?_
  refine zz_iload dL_areRows_480 rfl ?_
  refine zz_imul dL_areRows_482 ?_
  refine zz_iload dL_areRows_483 rfl ?_
  refine zz_iadd dL_areRows_485 ?_
  refine zz_tope (y := nI (80 * a + b)) (by simp only [i80, i81, pk_mul, nI_add, nI_1]) ?_
  refine zl_qb dL_areRows_486 (by omega) (by omega) ?_
  rw [hg a b ha hb]
  refine zz_icmp_ne (tgt := 529) dL_areRows_487 (by decide) (fun h => absurd rfl h) (fun _ => ?_)
  refine zz_aload_n dL_areRows_490 rfl ?_
  refine zz_iload_n dL_areRows_491 rfl ?_
  refine zz_iload dL_areRows_492 rfl ?_
  refine zz_iload dL_areRows_494 rfl ?_
  refine zz_callV (ci := 4) (x_has_v (r := r) hr ha hb hI2) dL_areRows_496 zw_m_L_180 wYX4_has wDX4_has rfl (by omega) px_x rfl (Nat.le_of_ble_eq_true rfl) (by decide) (by omega) (by omega) rfl ?_ (fun E τ hE => by cases hE.1)
  rintro v3 τ3 ⟨hv3, El3, Lo3, Hi3, BL3, BH3, Od3, Ls3, hI3, rfl⟩
  cases hv3
  refine zz_if_eq (tgt := 529) dL_areRows_499 (by decide) (fun h => absurd h (by rw [hset]; decide)) (fun _ => ?_)
  refine zz_aload_n dL_areRows_502 rfl ?_
  refine zz_iload_n dL_areRows_503 rfl ?_
  refine zz_iload dL_areRows_504 rfl ?_
  refine zz_iload dL_areRows_506 rfl ?_
  refine zz_aload dL_areRows_508 rfl ?_
  refine zz_bipush (v := 80) dL_areRows_510 (by decide) ?_
  refine zz_iload dL_areRows_512 rfl ?_
  refine zz_imul dL_areRows_514 ?_
  refine zz_iload dL_areRows_515 rfl ?_
  refine zz_iadd dL_areRows_517 ?_
  refine zz_tope (y := nI (80 * a + b)) (by simp only [i80, i81, pk_mul, nI_add, nI_1]) ?_
  refine zl_qb dL_areRows_518 (by omega) (by omega) ?_
  rw [hg a b ha hb]
  refine zz_callV (ci := 4) (x_set_v (r := r) hr ha hb _ hI3) dL_areRows_519 zw_m_L_176 wYX4_set wDX4_set rfl (by omega) px_x rfl (Nat.le_of_ble_eq_true rfl) (by decide) (by omega) (by omega) rfl ?_ (fun E τ hE => by cases hE.1)
  rintro v4 τ4 ⟨hv4, El4, Lo4, Hi4, BL4, BH4, Od4, Ls4, hI4, rfl⟩
  cases hv4
  refine zz_if_eq (tgt := 529) dL_areRows_522 (by decide) (fun h => absurd h (by rw [hset]; decide)) (fun _ => ?_)
  refine zz_iconst (v := 1) dL_areRows_525 (by decide) ?_
  refine zz_goto (tgt := 530) dL_areRows_526 (by decide) ?_
  refine zz_zret dL_areRows_530 rfl (by first | rfl | exact zB_nar _) ?_
  exact trQ_i hI4
set_option maxHeartbeats 1000000 in
set_option maxRecDepth 20000 in
theorem ar_up {r a h q : Nat} (ha : a < n) (hq : q < n) (hn : n ≤ 80) (hh : h < 4) {A : Nat → Bool} (hA : ∀ k, k < n → MB 54 (80 * a + k) = A k) (h2 : h < 2) (rc rz : Nat) (K : ∀ j, q ≤ j → j ≤ n → (∀ k, q ≤ k → k < j → (A k == (h % 2 == 0)) = false) → (j < n → (A j == (h % 2 == 0)) = true) → zz_E mL_areRows none 9 rc rz (trQ n T) 343 [(16, .int (nI j)), (15, .int (nI h)), (14, .int (nI q)), (13, .int 1), (7, .int (nI a)), (0, .ref 52), (1, .ref 57), (2, .int (nI r)), (3, .int (nI n)), (4, .ref 54), (5, .ref 55)] [] (px El Lo Hi BL BH Od Ls (nI n) (pl MB rho nu T))) : ∀ (m i : Nat), i + m = n → q ≤ i → (∀ k, q ≤ k → k < i → (A k == (h % 2 == 0)) = false) → zz_E mL_areRows none 9 rc rz (trQ n T) 287 [(16, .int (nI i)), (15, .int (nI h)), (14, .int (nI q)), (13, .int 1), (7, .int (nI a)), (0, .ref 52), (1, .ref 57), (2, .int (nI r)), (3, .int (nI n)), (4, .ref 54), (5, .ref 55)] [] (px El Lo Hi BL BH Od Ls (nI n) (pl MB rho nu T)) := by
  intro m
  induction m with
  | zero =>
    intro i hi hqi h0
    have hk : n = i := by omega
    subst hk
    refine zz_iload dL_areRows_287 rfl ?_
    refine zz_if_lt (tgt := 343) dL_areRows_289 (by decide) (fun h => absurd h (nI_pos (by omega))) (fun _ => ?_)
    refine zz_iload dL_areRows_292 rfl ?_
    refine zz_iload_n dL_areRows_294 rfl ?_
    refine zz_icmp_ge (tgt := 343) dL_areRows_295 (by decide) (fun _ => ?_) (fun h => absurd (nI_le (Nat.le_refl _) (by omega)) h)
    refine zz_lvl (lv2 := [(16, .int (nI n)), (15, .int (nI h)), (14, .int (nI q)), (13, .int 1), (7, .int (nI a)), (0, .ref 52), (1, .ref 57), (2, .int (nI r)), (3, .int (nI n)), (4, .ref 54), (5, .ref 55)]) ⟨rfl, rfl, rfl, rfl, rfl, rfl, rfl, rfl, rfl, rfl, rfl, trivial⟩ ?_
    exact K n hqi (Nat.le_refl _) h0 (fun h => absurd h (Nat.lt_irrefl _))
  | succ m ih =>
    intro i hi hqi h0
    have hk : i < n := by omega
    refine zz_iload dL_areRows_287 rfl ?_
    refine zz_if_lt (tgt := 343) dL_areRows_289 (by decide) (fun h => absurd h (nI_pos (by omega))) (fun _ => ?_)
    refine zz_iload dL_areRows_292 rfl ?_
    refine zz_iload_n dL_areRows_294 rfl ?_
    refine zz_icmp_ge (tgt := 343) dL_areRows_295 (by decide) (fun h => absurd h (nI_ge (by omega) (by omega))) (fun _ => ?_)
    refine zz_aload dL_areRows_298 rfl ?_
    refine zz_bipush (v := 80) dL_areRows_300 (by decide) ?_
    refine zz_iload dL_areRows_302 rfl ?_
    refine zz_imul dL_areRows_304 ?_
    refine zz_iload dL_areRows_305 rfl ?_
    refine zz_iadd dL_areRows_307 ?_
    refine zz_tope (y := nI (80 * a + i)) (by simp only [i80, i81, pk_mul, nI_add, nI_1]) ?_
    refine zl_qb dL_areRows_308 (by omega) (by omega) ?_
    rw [hA i hk]
    refine zz_iload dL_areRows_309 rfl ?_
    refine zz_iconst (v := 2) dL_areRows_311 (by decide) ?_
    refine zz_irem dL_areRows_312 ((by decide)) ?_
    refine zz_tope (y := nI (h % 2)) (pk_rem (d := 2) (by omega) (by omega) (by omega)) ?_
    refine zz_if_ne (tgt := 320) dL_areRows_313 (by decide) (fun h313 => ?_) (fun h313 => ?_)
    · refine zz_iconst (v := 0) dL_areRows_320 (by decide) ?_
      refine zz_topz (b := (h % 2 == 0)) (by first | exact hp_1 h313 | exact hp_0 h313) ?_
      refine zz_icmp_eq (tgt := 343) dL_areRows_321 (by decide) (fun h321 => ?_) (fun h321 => ?_)
      · refine zz_lvl (lv2 := [(16, .int (nI i)), (15, .int (nI h)), (14, .int (nI q)), (13, .int 1), (7, .int (nI a)), (0, .ref 52), (1, .ref 57), (2, .int (nI r)), (3, .int (nI n)), (4, .ref 54), (5, .ref 55)]) ⟨rfl, rfl, rfl, rfl, rfl, rfl, rfl, rfl, rfl, rfl, rfl, trivial⟩ ?_
        exact K i hqi (by omega) h0 (fun _ => bq_t h321)
      · refine zz_iload dL_areRows_324 rfl ?_
        refine zz_iload dL_areRows_326 rfl ?_
        refine zz_iconst (v := 2) dL_areRows_328 (by decide) ?_
        refine zz_icmp_ge (tgt := 336) dL_areRows_329 (by decide) (fun h => absurd h (nI_ge (a := h) (b := 2) (by omega) (by omega))) (fun _ => ?_)
        refine zz_iconst (v := 1) dL_areRows_332 (by decide) ?_
        refine zz_goto (tgt := 337) dL_areRows_333 (by decide) ?_
        refine zz_iadd dL_areRows_337 ?_
        refine zz_tope (y := nI (i + 1)) (nI_1 i) ?_
        refine zz_istore dL_areRows_338 (by decide) ?_
        refine zz_goto (tgt := 287) dL_areRows_340 (by decide) ?_
        refine zz_lvl (lv2 := [(16, .int (nI (i + 1))), (15, .int (nI h)), (14, .int (nI q)), (13, .int 1), (7, .int (nI a)), (0, .ref 52), (1, .ref 57), (2, .int (nI r)), (3, .int (nI n)), (4, .ref 54), (5, .ref 55)]) ⟨rfl, rfl, rfl, rfl, rfl, rfl, rfl, rfl, rfl, rfl, rfl, trivial⟩ ?_
        refine ih (i + 1) (by omega) (by omega) (fun k k1 k2 => ?_)
        by_cases e : k = i
        · rw [e]; exact bq_f h321
        · exact h0 k k1 (by omega)
    · refine zz_iconst (v := 1) dL_areRows_316 (by decide) ?_
      refine zz_goto (tgt := 321) dL_areRows_317 (by decide) ?_
      refine zz_topz (b := (h % 2 == 0)) (by first | exact hp_1 h313 | exact hp_0 h313) ?_
      refine zz_icmp_eq (tgt := 343) dL_areRows_321 (by decide) (fun h321 => ?_) (fun h321 => ?_)
      · refine zz_lvl (lv2 := [(16, .int (nI i)), (15, .int (nI h)), (14, .int (nI q)), (13, .int 1), (7, .int (nI a)), (0, .ref 52), (1, .ref 57), (2, .int (nI r)), (3, .int (nI n)), (4, .ref 54), (5, .ref 55)]) ⟨rfl, rfl, rfl, rfl, rfl, rfl, rfl, rfl, rfl, rfl, rfl, trivial⟩ ?_
        exact K i hqi (by omega) h0 (fun _ => bq_t h321)
      · refine zz_iload dL_areRows_324 rfl ?_
        refine zz_iload dL_areRows_326 rfl ?_
        refine zz_iconst (v := 2) dL_areRows_328 (by decide) ?_
        refine zz_icmp_ge (tgt := 336) dL_areRows_329 (by decide) (fun h => absurd h (nI_ge (a := h) (b := 2) (by omega) (by omega))) (fun _ => ?_)
        refine zz_iconst (v := 1) dL_areRows_332 (by decide) ?_
        refine zz_goto (tgt := 337) dL_areRows_333 (by decide) ?_
        refine zz_iadd dL_areRows_337 ?_
        refine zz_tope (y := nI (i + 1)) (nI_1 i) ?_
        refine zz_istore dL_areRows_338 (by decide) ?_
        refine zz_goto (tgt := 287) dL_areRows_340 (by decide) ?_
        refine zz_lvl (lv2 := [(16, .int (nI (i + 1))), (15, .int (nI h)), (14, .int (nI q)), (13, .int 1), (7, .int (nI a)), (0, .ref 52), (1, .ref 57), (2, .int (nI r)), (3, .int (nI n)), (4, .ref 54), (5, .ref 55)]) ⟨rfl, rfl, rfl, rfl, rfl, rfl, rfl, rfl, rfl, rfl, rfl, trivial⟩ ?_
        refine ih (i + 1) (by omega) (by omega) (fun k k1 k2 => ?_)
        by_cases e : k = i
        · rw [e]; exact bq_f h321
        · exact h0 k k1 (by omega)
set_option maxHeartbeats 1000000 in
set_option maxRecDepth 20000 in
theorem ar_dn {r a h q : Nat} (ha : a < n) (hq : q < n) (hn : n ≤ 80) (hh : h < 4) {A : Nat → Bool} (hA : ∀ k, k < n → MB 54 (80 * a + k) = A k) (h2 : ¬ h < 2) (rc rz : Nat) (K : ∀ t, t ≤ q + 1 → (∀ k, t ≤ k → k ≤ q → (A k == (h % 2 == 0)) = false) → (∀ s, t = s + 1 → (A s == (h % 2 == 0)) = true) → zz_E mL_areRows none 9 rc rz (trQ n T) 343 [(16, .int (dnX t)), (15, .int (nI h)), (14, .int (nI q)), (13, .int 1), (7, .int (nI a)), (0, .ref 52), (1, .ref 57), (2, .int (nI r)), (3, .int (nI n)), (4, .ref 54), (5, .ref 55)] [] (px El Lo Hi BL BH Od Ls (nI n) (pl MB rho nu T))) : ∀ t, t ≤ q + 1 → (∀ k, t ≤ k → k ≤ q → (A k == (h % 2 == 0)) = false) → zz_E mL_areRows none 9 rc rz (trQ n T) 287 [(16, .int (dnX t)), (15, .int (nI h)), (14, .int (nI q)), (13, .int 1), (7, .int (nI a)), (0, .ref 52), (1, .ref 57), (2, .int (nI r)), (3, .int (nI n)), (4, .ref 54), (5, .ref 55)] [] (px El Lo Hi BL BH Od Ls (nI n) (pl MB rho nu T)) := by
  intro i
  induction i with
  | zero =>
    intro hi h0
    refine zz_iload dL_areRows_287 rfl ?_
    refine zz_if_lt (tgt := 343) dL_areRows_289 (by decide) (fun _ => ?_) (fun h => absurd (show (-1 : Int32) < 0 by decide) h)
    refine zz_lvl (lv2 := [(16, .int (dnX 0)), (15, .int (nI h)), (14, .int (nI q)), (13, .int 1), (7, .int (nI a)), (0, .ref 52), (1, .ref 57), (2, .int (nI r)), (3, .int (nI n)), (4, .ref 54), (5, .ref 55)]) ⟨rfl, rfl, rfl, rfl, rfl, rfl, rfl, rfl, rfl, rfl, rfl, trivial⟩ ?_
    exact K 0 hi h0 (fun s e => by cases e)
  | succ i ih =>
    intro hi h0
    have hk : i < n := by omega
    refine zz_lvl (lv2 := [(16, .int (nI i)), (15, .int (nI h)), (14, .int (nI q)), (13, .int 1), (7, .int (nI a)), (0, .ref 52), (1, .ref 57), (2, .int (nI r)), (3, .int (nI n)), (4, .ref 54), (5, .ref 55)]) ⟨rfl, rfl, rfl, rfl, rfl, rfl, rfl, rfl, rfl, rfl, rfl, trivial⟩ ?_
    refine zz_iload dL_areRows_287 rfl ?_
    refine zz_if_lt (tgt := 343) dL_areRows_289 (by decide) (fun h => absurd h (nI_pos (by omega))) (fun _ => ?_)
    refine zz_iload dL_areRows_292 rfl ?_
    refine zz_iload_n dL_areRows_294 rfl ?_
    refine zz_icmp_ge (tgt := 343) dL_areRows_295 (by decide) (fun h => absurd h (nI_ge (by omega) (by omega))) (fun _ => ?_)
    refine zz_aload dL_areRows_298 rfl ?_
    refine zz_bipush (v := 80) dL_areRows_300 (by decide) ?_
    refine zz_iload dL_areRows_302 rfl ?_
    refine zz_imul dL_areRows_304 ?_
    refine zz_iload dL_areRows_305 rfl ?_
    refine zz_iadd dL_areRows_307 ?_
    refine zz_tope (y := nI (80 * a + i)) (by simp only [i80, i81, pk_mul, nI_add, nI_1]) ?_
    refine zl_qb dL_areRows_308 (by omega) (by omega) ?_
    rw [hA i hk]
    refine zz_iload dL_areRows_309 rfl ?_
    refine zz_iconst (v := 2) dL_areRows_311 (by decide) ?_
    refine zz_irem dL_areRows_312 ((by decide)) ?_
    refine zz_tope (y := nI (h % 2)) (pk_rem (d := 2) (by omega) (by omega) (by omega)) ?_
    refine zz_if_ne (tgt := 320) dL_areRows_313 (by decide) (fun h313 => ?_) (fun h313 => ?_)
    · refine zz_iconst (v := 0) dL_areRows_320 (by decide) ?_
      refine zz_topz (b := (h % 2 == 0)) (by first | exact hp_1 h313 | exact hp_0 h313) ?_
      refine zz_icmp_eq (tgt := 343) dL_areRows_321 (by decide) (fun h321 => ?_) (fun h321 => ?_)
      · refine zz_lvl (lv2 := [(16, .int (dnX (i + 1))), (15, .int (nI h)), (14, .int (nI q)), (13, .int 1), (7, .int (nI a)), (0, .ref 52), (1, .ref 57), (2, .int (nI r)), (3, .int (nI n)), (4, .ref 54), (5, .ref 55)]) ⟨rfl, rfl, rfl, rfl, rfl, rfl, rfl, rfl, rfl, rfl, rfl, trivial⟩ ?_
        exact K (i + 1) hi h0 (fun s e => by
          obtain rfl : i = s := Nat.succ.inj e
          exact bq_t h321)
      · refine zz_iload dL_areRows_324 rfl ?_
        refine zz_iload dL_areRows_326 rfl ?_
        refine zz_iconst (v := 2) dL_areRows_328 (by decide) ?_
        refine zz_icmp_ge (tgt := 336) dL_areRows_329 (by decide) (fun _ => ?_) (fun h => absurd (nI_le (a := 2) (by omega) (by omega)) h)
        refine zz_iconst (v := (-1)) dL_areRows_336 (by decide) ?_
        refine zz_iadd dL_areRows_337 ?_
        refine zz_tope (y := dnX i) (dnX_p i) ?_
        refine zz_istore dL_areRows_338 (by decide) ?_
        refine zz_goto (tgt := 287) dL_areRows_340 (by decide) ?_
        refine zz_lvl (lv2 := [(16, .int (dnX i)), (15, .int (nI h)), (14, .int (nI q)), (13, .int 1), (7, .int (nI a)), (0, .ref 52), (1, .ref 57), (2, .int (nI r)), (3, .int (nI n)), (4, .ref 54), (5, .ref 55)]) ⟨rfl, rfl, rfl, rfl, rfl, rfl, rfl, rfl, rfl, rfl, rfl, trivial⟩ ?_
        refine ih (by omega) (fun k k1 k2 => ?_)
        by_cases e : k = i
        · rw [e]; exact bq_f h321
        · exact h0 k (by omega) k2
    · refine zz_iconst (v := 1) dL_areRows_316 (by decide) ?_
      refine zz_goto (tgt := 321) dL_areRows_317 (by decide) ?_
      refine zz_topz (b := (h % 2 == 0)) (by first | exact hp_1 h313 | exact hp_0 h313) ?_
      refine zz_icmp_eq (tgt := 343) dL_areRows_321 (by decide) (fun h321 => ?_) (fun h321 => ?_)
      · refine zz_lvl (lv2 := [(16, .int (dnX (i + 1))), (15, .int (nI h)), (14, .int (nI q)), (13, .int 1), (7, .int (nI a)), (0, .ref 52), (1, .ref 57), (2, .int (nI r)), (3, .int (nI n)), (4, .ref 54), (5, .ref 55)]) ⟨rfl, rfl, rfl, rfl, rfl, rfl, rfl, rfl, rfl, rfl, rfl, trivial⟩ ?_
        exact K (i + 1) hi h0 (fun s e => by
          obtain rfl : i = s := Nat.succ.inj e
          exact bq_t h321)
      · refine zz_iload dL_areRows_324 rfl ?_
        refine zz_iload dL_areRows_326 rfl ?_
        refine zz_iconst (v := 2) dL_areRows_328 (by decide) ?_
        refine zz_icmp_ge (tgt := 336) dL_areRows_329 (by decide) (fun _ => ?_) (fun h => absurd (nI_le (a := 2) (by omega) (by omega)) h)
        refine zz_iconst (v := (-1)) dL_areRows_336 (by decide) ?_
        refine zz_iadd dL_areRows_337 ?_
        refine zz_tope (y := dnX i) (dnX_p i) ?_
        refine zz_istore dL_areRows_338 (by decide) ?_
        refine zz_goto (tgt := 287) dL_areRows_340 (by decide) ?_
        refine zz_lvl (lv2 := [(16, .int (dnX i)), (15, .int (nI h)), (14, .int (nI q)), (13, .int 1), (7, .int (nI a)), (0, .ref 52), (1, .ref 57), (2, .int (nI r)), (3, .int (nI n)), (4, .ref 54), (5, .ref 55)]) ⟨rfl, rfl, rfl, rfl, rfl, rfl, rfl, rfl, rfl, rfl, rfl, trivial⟩ ?_
        refine ih (by omega) (fun k k1 k2 => ?_)
        by_cases e : k = i
        · rw [e]; exact bq_f h321
        · exact h0 k (by omega) k2
set_option maxHeartbeats 1000000 in
set_option maxRecDepth 20000 in
theorem ar_w {r a h q : Nat} (ha : a < n) (hq : q < n) (hn : n ≤ 80) (hh : h < 4) {A : Nat → Bool} (hA : ∀ k, k < n → MB 54 (80 * a + k) = A k) (rc rz : Nat) (K : ∀ x : Int32, (∀ v, (if h < 2 then upS (fun k => A k == (h % 2 == 0)) n q v else dnS (fun k => A k == (h % 2 == 0)) q v) → (nI n ≤ x → v = -1) ∧ (¬ nI n ≤ x → v = x)) → zz_E mL_areRows none 9 rc rz (trQ n T) 343 [(16, .int x), (15, .int (nI h)), (14, .int (nI q)), (13, .int 1), (7, .int (nI a)), (0, .ref 52), (1, .ref 57), (2, .int (nI r)), (3, .int (nI n)), (4, .ref 54), (5, .ref 55)] [] (px El Lo Hi BL BH Od Ls (nI n) (pl MB rho nu T))) : zz_E mL_areRows none 9 rc rz (trQ n T) 287 [(16, .int (nI q)), (15, .int (nI h)), (14, .int (nI q)), (13, .int 1), (7, .int (nI a)), (0, .ref 52), (1, .ref 57), (2, .int (nI r)), (3, .int (nI n)), (4, .ref 54), (5, .ref 55)] [] (px El Lo Hi BL BH Od Ls (nI n) (pl MB rho nu T)) := by
  by_cases h2 : h < 2
  · exact ar_up ha hq hn hh hA h2 rc rz (fun j j1 j2 j3 j4 => K _ (fun v hv => by
      rw [if_pos h2] at hv
      exact up_x hn j1 j2 j3 j4 hv)) (n - q) q (by omega) (Nat.le_refl q) (fun k k1 k2 => absurd k1 (by omega))
  · exact ar_dn ha hq hn hh hA h2 rc rz (fun t t1 t2 t3 => K _ (fun v hv => by
      rw [if_neg h2] at hv
      exact dn_x hn hq t1 t2 t3 hv)) (q + 1) (Nat.le_refl _) (fun k k1 k2 => absurd k1 (by omega))
end ZYR1
