section ZYR1
variable {El : Nat → Int32} {Lo Hi : Nat → Nat → Int64} {BL BH : Nat → Int64} {Od : Nat → Nat → Int32} {Ls : Nat → Int32} {n : Nat} {R : Nat → Nat → Nat → Bool} {mk : Nat → Bool} {MB : Nat → Nat → Bool} {rho nu : Nat → Int32} {T : zz_St}
set_option maxHeartbeats 1000000 in
set_option maxRecDepth 20000 in
theorem ar_396 {r a b : Nat} (ha : a < n) (hb : b < n) (hn : n ≤ 80) (hg : gr n (MB 54) (R r)) (rc rz : Nat) (K : zz_E mL_areRows none 9 rc rz (trQ n T) 446 [(16, .int (zB (anb (fun k => R r a k && R r b k) n))), (15, .int (nI b)), (13, .int 1), (7, .int (nI a)), (0, .ref 52), (1, .ref 57), (2, .int (nI r)), (3, .int (nI n)), (4, .ref 54), (5, .ref 55)] [] (px El Lo Hi BL BH Od Ls (nI n) (pl MB rho nu T))) : ∀ (m i : Nat), i + m = n → zz_E mL_areRows none 9 rc rz (trQ n T) 396 [(17, .int (nI i)), (16, .int (zB (anb (fun k => R r a k && R r b k) i))), (15, .int (nI b)), (13, .int 1), (7, .int (nI a)), (0, .ref 52), (1, .ref 57), (2, .int (nI r)), (3, .int (nI n)), (4, .ref 54), (5, .ref 55)] [] (px El Lo Hi BL BH Od Ls (nI n) (pl MB rho nu T)) := by
  intro m
  induction m with
  | zero =>
    intro i hi
    have hk : n = i := by omega
    subst hk
    refine zz_iload dL_areRows_396 rfl ?_
    refine zz_iload_n dL_areRows_398 rfl ?_
    refine zz_icmp_ge (tgt := 446) dL_areRows_399 (by decide) (fun _ => ?_) (fun h => absurd (nI_le (Nat.le_refl _) (by omega)) h)
    refine zz_lvl (lv2 := [(16, .int (zB (anb (fun k => R r a k && R r b k) n))), (15, .int (nI b)), (13, .int 1), (7, .int (nI a)), (0, .ref 52), (1, .ref 57), (2, .int (nI r)), (3, .int (nI n)), (4, .ref 54), (5, .ref 55)]) ⟨rfl, rfl, rfl, rfl, rfl, rfl, rfl, rfl, rfl, rfl, trivial⟩ ?_
    exact K
  | succ m ih =>
    intro i hi
    have hk : i < n := by omega
    refine zz_iload dL_areRows_396 rfl ?_
    refine zz_iload_n dL_areRows_398 rfl ?_
    refine zz_icmp_ge (tgt := 446) dL_areRows_399 (by decide) (fun h => absurd h (nI_ge (by omega) (by omega))) (fun _ => ?_)
    refine zz_iload dL_areRows_402 rfl ?_
    refine zz_aload dL_areRows_404 rfl ?_
    refine zz_bipush (v := 80) dL_areRows_406 (by decide) ?_
    refine zz_iload dL_areRows_408 rfl ?_
    refine zz_imul dL_areRows_410 ?_
    refine zz_iload dL_areRows_411 rfl ?_
    refine zz_iadd dL_areRows_413 ?_
    refine zz_tope (y := nI (80 * a + i)) (by simp only [i80, i81, pk_mul, nI_add, nI_1]) ?_
    refine zl_qb dL_areRows_414 (by omega) (by omega) ?_
    rw [hg a i ha hk]
    refine zz_if_eq (tgt := 436) dL_areRows_415 (by decide) (fun h415 => ?_) (fun h415 => ?_)
    · refine zz_iconst (v := 0) dL_areRows_436 (by decide) ?_
      refine zz_topz (b := R r a i && R r b i) (by
        first | (rw [zB_0.mp h415]; rfl) | (rw [zB_n.mp h415, zB_0.mp h429]; rfl) | (rw [zB_n.mp h415, zB_n.mp h429]; rfl)) ?_
      refine zz_ior dL_areRows_437 ?_
      refine zz_topz (b := anb (fun k => R r a k && R r b k) (i + 1)) (by rw [zB_or]; rfl) ?_
      refine zz_istore dL_areRows_438 (by decide) ?_
      refine zz_iinc (v := nI (i + 1)) dL_areRows_440 rfl (nI_1 i) (by decide) ?_
      refine zz_goto (tgt := 396) dL_areRows_443 (by decide) ?_
      refine zz_lvl (lv2 := [(17, .int (nI (i + 1))), (16, .int (zB (anb (fun k => R r a k && R r b k) (i + 1)))), (15, .int (nI b)), (13, .int 1), (7, .int (nI a)), (0, .ref 52), (1, .ref 57), (2, .int (nI r)), (3, .int (nI n)), (4, .ref 54), (5, .ref 55)]) ⟨rfl, rfl, rfl, rfl, rfl, rfl, rfl, rfl, rfl, rfl, rfl, trivial⟩ ?_
      exact ih (i + 1) (by omega)
    · refine zz_aload dL_areRows_418 rfl ?_
      refine zz_bipush (v := 80) dL_areRows_420 (by decide) ?_
      refine zz_iload dL_areRows_422 rfl ?_
      refine zz_imul dL_areRows_424 ?_
      refine zz_iload dL_areRows_425 rfl ?_
      refine zz_iadd dL_areRows_427 ?_
      refine zz_tope (y := nI (80 * b + i)) (by simp only [i80, i81, pk_mul, nI_add, nI_1]) ?_
      refine zl_qb dL_areRows_428 (by omega) (by omega) ?_
      rw [hg b i hb hk]
      refine zz_if_eq (tgt := 436) dL_areRows_429 (by decide) (fun h429 => ?_) (fun h429 => ?_)
      · refine zz_iconst (v := 0) dL_areRows_436 (by decide) ?_
        refine zz_topz (b := R r a i && R r b i) (by
          first | (rw [zB_0.mp h415]; rfl) | (rw [zB_n.mp h415, zB_0.mp h429]; rfl) | (rw [zB_n.mp h415, zB_n.mp h429]; rfl)) ?_
        refine zz_ior dL_areRows_437 ?_
        refine zz_topz (b := anb (fun k => R r a k && R r b k) (i + 1)) (by rw [zB_or]; rfl) ?_
        refine zz_istore dL_areRows_438 (by decide) ?_
        refine zz_iinc (v := nI (i + 1)) dL_areRows_440 rfl (nI_1 i) (by decide) ?_
        refine zz_goto (tgt := 396) dL_areRows_443 (by decide) ?_
        refine zz_lvl (lv2 := [(17, .int (nI (i + 1))), (16, .int (zB (anb (fun k => R r a k && R r b k) (i + 1)))), (15, .int (nI b)), (13, .int 1), (7, .int (nI a)), (0, .ref 52), (1, .ref 57), (2, .int (nI r)), (3, .int (nI n)), (4, .ref 54), (5, .ref 55)]) ⟨rfl, rfl, rfl, rfl, rfl, rfl, rfl, rfl, rfl, rfl, rfl, trivial⟩ ?_
        exact ih (i + 1) (by omega)
      · refine zz_iconst (v := 1) dL_areRows_432 (by decide) ?_
        refine zz_goto (tgt := 437) dL_areRows_433 (by decide) ?_
        refine zz_topz (b := R r a i && R r b i) (by
          first | (rw [zB_0.mp h415]; rfl) | (rw [zB_n.mp h415, zB_0.mp h429]; rfl) | (rw [zB_n.mp h415, zB_n.mp h429]; rfl)) ?_
        refine zz_ior dL_areRows_437 ?_
        refine zz_topz (b := anb (fun k => R r a k && R r b k) (i + 1)) (by rw [zB_or]; rfl) ?_
        refine zz_istore dL_areRows_438 (by decide) ?_
        refine zz_iinc (v := nI (i + 1)) dL_areRows_440 rfl (nI_1 i) (by decide) ?_
        refine zz_goto (tgt := 396) dL_areRows_443 (by decide) ?_
        refine zz_lvl (lv2 := [(17, .int (nI (i + 1))), (16, .int (zB (anb (fun k => R r a k && R r b k) (i + 1)))), (15, .int (nI b)), (13, .int 1), (7, .int (nI a)), (0, .ref 52), (1, .ref 57), (2, .int (nI r)), (3, .int (nI n)), (4, .ref 54), (5, .ref 55)]) ⟨rfl, rfl, rfl, rfl, rfl, rfl, rfl, rfl, rfl, rfl, rfl, trivial⟩ ?_
        exact ih (i + 1) (by omega)
end ZYR1
