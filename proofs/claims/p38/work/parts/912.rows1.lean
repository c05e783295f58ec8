section ZYR1c
variable {El : Nat → Int32} {Lo Hi : Nat → Nat → Int64} {BL BH : Nat → Int64} {Od : Nat → Nat → Int32} {Ls : Nat → Int32} {n : Nat} {R : Nat → Nat → Nat → Bool} {mk : Nat → Bool} {MB : Nat → Nat → Bool} {rho nu : Nat → Int32} {T : zz_St}
set_option maxHeartbeats 1000000 in
set_option maxRecDepth 20000 in
theorem ar_up {r a h q : Nat} (ha : a < n) (hq : q < n) (hn : n ≤ 80) (hh : h < 4) {A : Nat → Bool} (hA : ∀ k, k < n → MB 54 (80 * a + k) = A k) (h2 : h < 2) (rc rz : Nat) (K : ∀ j, q ≤ j → j ≤ n → (∀ k, q ≤ k → k < j → (A k == (h % 2 == 0)) = false) → (j < n → (A j == (h % 2 == 0)) = true) → zz_E mL_areRows none 9 rc rz (trQ n T) 343 [(16, .int (nI j)), (15, .int (nI h)), (14, .int (nI q)), (13, .int 1), (7, .int (nI a)), (0, .ref 52), (1, .ref 57), (2, .int (nI r)), (3, .int (nI n)), (4, .ref 54), (5, .ref 55)] [] (px El Lo Hi BL BH Od Ls (nI n) (pl MB rho nu T))) : ∀ (m i : Nat), i + m = n → q ≤ i → (∀ k, q ≤ k → k < i → (A k == (h % 2 == 0)) = false) → zz_E mL_areRows none 9 rc rz (trQ n T) 287 [(16, .int (nI i)), (15, .int (nI h)), (14, .int (nI q)), (13, .int 1), (7, .int (nI a)), (0, .ref 52), (1, .ref 57), (2, .int (nI r)), (3, .int (nI n)), (4, .ref 54), (5, .ref 55)] [] (px El Lo Hi BL BH Od Ls (nI n) (pl MB rho nu T)) := by
  intro m
  induction m with
  | zero =>
    intro i hi hqi h0
    have hk : n = i := by omega
    subst hk
    refine zz_iload dL_areRows_287 rfl ?_
    refine zz_if_lt (tgt := 343) dL_areRows_289 (by decide) (fun h => absurd h (nI_pos (by omega))) (fun _ => ?_)
    refine zz_iload dL_areRows_292 rfl ?_
    refine zz_iload_n dL_areRows_294 rfl ?_
    refine zz_icmp_ge (tgt := 343) dL_areRows_295 (by decide) (fun _ => ?_) (fun h => absurd (nI_le (Nat.le_refl _) (by omega)) h)
    refine zz_lvl (lv2 := [(16, .int (nI n)), (15, .int (nI h)), (14, .int (nI q)), (13, .int 1), (7, .int (nI a)), (0, .ref 52), (1, .ref 57), (2, .int (nI r)), (3, .int (nI n)), (4, .ref 54), (5, .ref 55)]) ⟨rfl, rfl, rfl, rfl, rfl, rfl, rfl, rfl, rfl, rfl, rfl, trivial⟩ ?_
    exact K n hqi (Nat.le_refl _) h0 (fun h => absurd h (Nat.lt_irrefl _))
  | succ m ih =>
    intro i hi hqi h0
    have hk : i < n := by omega
    refine zz_iload dL_areRows_287 rfl ?_
    refine zz_if_lt (tgt := 343) dL_areRows_289 (by decide) (fun h => absurd h (nI_pos (by omega))) (fun _ => ?_)
    refine zz_iload dL_areRows_292 rfl ?_
    refine zz_iload_n dL_areRows_294 rfl ?_
    refine zz_icmp_ge (tgt := 343) dL_areRows_295 (by decide) (fun h => absurd h (nI_ge (by omega) (by omega))) (fun _ => ?_)
    refine zz_aload dL_areRows_298 rfl ?_
    refine zz_bipush (v := 80) dL_areRows_300 (by decide) ?_
    refine zz_iload dL_areRows_302 rfl ?_
    refine zz_imul dL_areRows_304 ?_
    refine zz_iload dL_areRows_305 rfl ?_
    refine zz_iadd dL_areRows_307 ?_
    refine zz_tope (y := nI (80 * a + i)) (by simp only [i80, i81, pk_mul, nI_add, nI_1]) ?_
    refine zl_qb dL_areRows_308 (by omega) (by omega) ?_
    rw [hA i hk]
    refine zz_iload dL_areRows_309 rfl ?_
    refine zz_iconst (v := 2) dL_areRows_311 (by decide) ?_
    refine zz_irem dL_areRows_312 ((by decide)) ?_
    refine zz_tope (y := nI (h % 2)) (pk_rem (d := 2) (by omega) (by omega) (by omega)) ?_
    refine zz_if_ne (tgt := 320) dL_areRows_313 (by decide) (fun h313 => ?_) (fun h313 => ?_)
    · refine zz_iconst (v := 0) dL_areRows_320 (by decide) ?_
      refine zz_topz (b := (h % 2 == 0)) (by first | exact hp_1 h313 | exact hp_0 h313) ?_
      refine zz_icmp_eq (tgt := 343) dL_areRows_321 (by decide) (fun h321 => ?_) (fun h321 => ?_)
      · refine zz_lvl (lv2 := [(16, .int (nI i)), (15, .int (nI h)), (14, .int (nI q)), (13, .int 1), (7, .int (nI a)), (0, .ref 52), (1, .ref 57), (2, .int (nI r)), (3, .int (nI n)), (4, .ref 54), (5, .ref 55)]) ⟨rfl, rfl, rfl, rfl, rfl, rfl, rfl, rfl, rfl, rfl, rfl, trivial⟩ ?_
        exact K i hqi (by omega) h0 (fun _ => bq_t h321)
      · refine zz_iload dL_areRows_324 rfl ?_
        refine zz_iload dL_areRows_326 rfl ?_
        refine zz_iconst (v := 2) dL_areRows_328 (by decide) ?_
        refine zz_icmp_ge (tgt := 336) dL_areRows_329 (by decide) (fun q9 => absurd q9 (nI_ge (a := h) (b := 2) (by omega) (by omega))) (fun _ => ?_)
        refine zz_iconst (v := 1) dL_areRows_332 (by decide) ?_
        refine zz_goto (tgt := 337) dL_areRows_333 (by decide) ?_
        refine zz_iadd dL_areRows_337 ?_
        refine zz_tope (y := nI (i + 1)) (nI_1 i) ?_
        refine zz_istore dL_areRows_338 (by decide) ?_
        refine zz_goto (tgt := 287) dL_areRows_340 (by decide) ?_
        refine zz_lvl (lv2 := [(16, .int (nI (i + 1))), (15, .int (nI h)), (14, .int (nI q)), (13, .int 1), (7, .int (nI a)), (0, .ref 52), (1, .ref 57), (2, .int (nI r)), (3, .int (nI n)), (4, .ref 54), (5, .ref 55)]) ⟨rfl, rfl, rfl, rfl, rfl, rfl, rfl, rfl, rfl, rfl, rfl, trivial⟩ ?_
        refine ih (i + 1) (by omega) (by omega) (fun k k1 k2 => ?_)
        by_cases e : k = i
        · rw [e]; exact bq_f h321
        · exact h0 k k1 (by omega)
    · refine zz_iconst (v := 1) dL_areRows_316 (by decide) ?_
      refine zz_goto (tgt := 321) dL_areRows_317 (by decide) ?_
      refine zz_topz (b := (h % 2 == 0)) (by first | exact hp_1 h313 | exact hp_0 h313) ?_
      refine zz_icmp_eq (tgt := 343) dL_areRows_321 (by decide) (fun h321 => ?_) (fun h321 => ?_)
      · refine zz_lvl (lv2 := [(16, .int (nI i)), (15, .int (nI h)), (14, .int (nI q)), (13, .int 1), (7, .int (nI a)), (0, .ref 52), (1, .ref 57), (2, .int (nI r)), (3, .int (nI n)), (4, .ref 54), (5, .ref 55)]) ⟨rfl, rfl, rfl, rfl, rfl, rfl, rfl, rfl, rfl, rfl, rfl, trivial⟩ ?_
        exact K i hqi (by omega) h0 (fun _ => bq_t h321)
      · refine zz_iload dL_areRows_324 rfl ?_
        refine zz_iload dL_areRows_326 rfl ?_
        refine zz_iconst (v := 2) dL_areRows_328 (by decide) ?_
        refine zz_icmp_ge (tgt := 336) dL_areRows_329 (by decide) (fun q9 => absurd q9 (nI_ge (a := h) (b := 2) (by omega) (by omega))) (fun _ => ?_)
        refine zz_iconst (v := 1) dL_areRows_332 (by decide) ?_
        refine zz_goto (tgt := 337) dL_areRows_333 (by decide) ?_
        refine zz_iadd dL_areRows_337 ?_
        refine zz_tope (y := nI (i + 1)) (nI_1 i) ?_
        refine zz_istore dL_areRows_338 (by decide) ?_
        refine zz_goto (tgt := 287) dL_areRows_340 (by decide) ?_
        refine zz_lvl (lv2 := [(16, .int (nI (i + 1))), (15, .int (nI h)), (14, .int (nI q)), (13, .int 1), (7, .int (nI a)), (0, .ref 52), (1, .ref 57), (2, .int (nI r)), (3, .int (nI n)), (4, .ref 54), (5, .ref 55)]) ⟨rfl, rfl, rfl, rfl, rfl, rfl, rfl, rfl, rfl, rfl, rfl, trivial⟩ ?_
        refine ih (i + 1) (by omega) (by omega) (fun k k1 k2 => ?_)
        by_cases e : k = i
        · rw [e]; exact bq_f h321
        · exact h0 k k1 (by omega)
end ZYR1c
