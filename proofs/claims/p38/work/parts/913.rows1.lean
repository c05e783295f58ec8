section ZYR1d
variable {El : Nat → Int32} {Lo Hi : Nat → Nat → Int64} {BL BH : Nat → Int64} {Od : Nat → Nat → Int32} {Ls : Nat → Int32} {n : Nat} {R : Nat → Nat → Nat → Bool} {mk : Nat → Bool} {MB : Nat → Nat → Bool} {rho nu : Nat → Int32} {T : zz_St}
set_option maxHeartbeats 1000000 in
set_option maxRecDepth 20000 in
theorem ar_dn {r a h q : Nat} (ha : a < n) (hq : q < n) (hn : n ≤ 80) (hh : h < 4) {A : Nat → Bool} (hA : ∀ k, k < n → MB 54 (80 * a + k) = A k) (h2 : ¬ h < 2) (rc rz : Nat) (K : ∀ t, t ≤ q + 1 → (∀ k, t ≤ k → k ≤ q → (A k == (h % 2 == 0)) = false) → (∀ s, t = s + 1 → (A s == (h % 2 == 0)) = true) → zz_E mL_areRows none 9 rc rz (trQ n T) 343 [(16, .int (dnX t)), (15, .int (nI h)), (14, .int (nI q)), (13, .int 1), (7, .int (nI a)), (0, .ref 52), (1, .ref 57), (2, .int (nI r)), (3, .int (nI n)), (4, .ref 54), (5, .ref 55)] [] (px El Lo Hi BL BH Od Ls (nI n) (pl MB rho nu T))) : ∀ t, t ≤ q + 1 → (∀ k, t ≤ k → k ≤ q → (A k == (h % 2 == 0)) = false) → zz_E mL_areRows none 9 rc rz (trQ n T) 287 [(16, .int (dnX t)), (15, .int (nI h)), (14, .int (nI q)), (13, .int 1), (7, .int (nI a)), (0, .ref 52), (1, .ref 57), (2, .int (nI r)), (3, .int (nI n)), (4, .ref 54), (5, .ref 55)] [] (px El Lo Hi BL BH Od Ls (nI n) (pl MB rho nu T)) := by
  intro i
  induction i with
  | zero =>
    intro hi h0
    refine zz_iload dL_areRows_287 rfl ?_
    refine zz_if_lt (tgt := 343) dL_areRows_289 (by decide) (fun _ => ?_) (fun h => absurd (show (-1 : Int32) < 0 by decide) h)
    refine zz_lvl (lv2 := [(16, .int (dnX 0)), (15, .int (nI h)), (14, .int (nI q)), (13, .int 1), (7, .int (nI a)), (0, .ref 52), (1, .ref 57), (2, .int (nI r)), (3, .int (nI n)), (4, .ref 54), (5, .ref 55)]) ⟨rfl, rfl, rfl, rfl, rfl, rfl, rfl, rfl, rfl, rfl, rfl, trivial⟩ ?_
    exact K 0 hi h0 (fun s e => by cases e)
  | succ i ih =>
    intro hi h0
    have hk : i < n := by omega
    refine zz_lvl (lv2 := [(16, .int (nI i)), (15, .int (nI h)), (14, .int (nI q)), (13, .int 1), (7, .int (nI a)), (0, .ref 52), (1, .ref 57), (2, .int (nI r)), (3, .int (nI n)), (4, .ref 54), (5, .ref 55)]) ⟨rfl, rfl, rfl, rfl, rfl, rfl, rfl, rfl, rfl, rfl, rfl, trivial⟩ ?_
    refine zz_iload dL_areRows_287 rfl ?_
    refine zz_if_lt (tgt := 343) dL_areRows_289 (by decide) (fun h => absurd h (nI_pos (by omega))) (fun _ => ?_)
    refine zz_iload dL_areRows_292 rfl ?_
    refine zz_iload_n dL_areRows_294 rfl ?_
    refine zz_icmp_ge (tgt := 343) dL_areRows_295 (by decide) (fun h => absurd h (nI_ge (by omega) (by omega))) (fun _ => ?_)
    refine zz_aload dL_areRows_298 rfl ?_
    refine zz_bipush (v := 80) dL_areRows_300 (by decide) ?_
    refine zz_iload dL_areRows_302 rfl ?_
    refine zz_imul dL_areRows_304 ?_
    refine zz_iload dL_areRows_305 rfl ?_
    refine zz_iadd dL_areRows_307 ?_
    refine zz_tope (y := nI (80 * a + i)) (by simp only [i80, i81, pk_mul, nI_add, nI_1]) ?_
    refine zl_qb dL_areRows_308 (by omega) (by omega) ?_
    rw [hA i hk]
    refine zz_iload dL_areRows_309 rfl ?_
    refine zz_iconst (v := 2) dL_areRows_311 (by decide) ?_
    refine zz_irem dL_areRows_312 ((by decide)) ?_
    refine zz_tope (y := nI (h % 2)) (pk_rem (d := 2) (by omega) (by omega) (by omega)) ?_
    refine zz_if_ne (tgt := 320) dL_areRows_313 (by decide) (fun h313 => ?_) (fun h313 => ?_)
    · refine zz_iconst (v := 0) dL_areRows_320 (by decide) ?_
      refine zz_topz (b := (h % 2 == 0)) (by first | exact hp_1 h313 | exact hp_0 h313) ?_
      refine zz_icmp_eq (tgt := 343) dL_areRows_321 (by decide) (fun h321 => ?_) (fun h321 => ?_)
      · refine zz_lvl (lv2 := [(16, .int (dnX (i + 1))), (15, .int (nI h)), (14, .int (nI q)), (13, .int 1), (7, .int (nI a)), (0, .ref 52), (1, .ref 57), (2, .int (nI r)), (3, .int (nI n)), (4, .ref 54), (5, .ref 55)]) ⟨rfl, rfl, rfl, rfl, rfl, rfl, rfl, rfl, rfl, rfl, rfl, trivial⟩ ?_
        exact K (i + 1) hi h0 (fun s e => by
          obtain rfl : i = s := Nat.succ.inj e
          exact bq_t h321)
      · refine zz_iload dL_areRows_324 rfl ?_
        refine zz_iload dL_areRows_326 rfl ?_
        refine zz_iconst (v := 2) dL_areRows_328 (by decide) ?_
        refine zz_icmp_ge (tgt := 336) dL_areRows_329 (by decide) (fun _ => ?_) (fun h => absurd (nI_le (a := 2) (by omega) (by omega)) h)
        refine zz_iconst (v := (-1)) dL_areRows_336 (by decide) ?_
        refine zz_iadd dL_areRows_337 ?_
        refine zz_tope (y := dnX i) (dnX_p i) ?_
        refine zz_istore dL_areRows_338 (by decide) ?_
        refine zz_goto (tgt := 287) dL_areRows_340 (by decide) ?_
        refine zz_lvl (lv2 := [(16, .int (dnX i)), (15, .int (nI h)), (14, .int (nI q)), (13, .int 1), (7, .int (nI a)), (0, .ref 52), (1, .ref 57), (2, .int (nI r)), (3, .int (nI n)), (4, .ref 54), (5, .ref 55)]) ⟨rfl, rfl, rfl, rfl, rfl, rfl, rfl, rfl, rfl, rfl, rfl, trivial⟩ ?_
        refine ih (by omega) (fun k k1 k2 => ?_)
        by_cases e : k = i
        · rw [e]; exact bq_f h321
        · exact h0 k (by omega) k2
    · refine zz_iconst (v := 1) dL_areRows_316 (by decide) ?_
      refine zz_goto (tgt := 321) dL_areRows_317 (by decide) ?_
      refine zz_topz (b := (h % 2 == 0)) (by first | exact hp_1 h313 | exact hp_0 h313) ?_
      refine zz_icmp_eq (tgt := 343) dL_areRows_321 (by decide) (fun h321 => ?_) (fun h321 => ?_)
      · refine zz_lvl (lv2 := [(16, .int (dnX (i + 1))), (15, .int (nI h)), (14, .int (nI q)), (13, .int 1), (7, .int (nI a)), (0, .ref 52), (1, .ref 57), (2, .int (nI r)), (3, .int (nI n)), (4, .ref 54), (5, .ref 55)]) ⟨rfl, rfl, rfl, rfl, rfl, rfl, rfl, rfl, rfl, rfl, rfl, trivial⟩ ?_
        exact K (i + 1) hi h0 (fun s e => by
          obtain rfl : i = s := Nat.succ.inj e
          exact bq_t h321)
      · refine zz_iload dL_areRows_324 rfl ?_
        refine zz_iload dL_areRows_326 rfl ?_
        refine zz_iconst (v := 2) dL_areRows_328 (by decide) ?_
        refine zz_icmp_ge (tgt := 336) dL_areRows_329 (by decide) (fun _ => ?_) (fun h => absurd (nI_le (a := 2) (by omega) (by omega)) h)
        refine zz_iconst (v := (-1)) dL_areRows_336 (by decide) ?_
        refine zz_iadd dL_areRows_337 ?_
        refine zz_tope (y := dnX i) (dnX_p i) ?_
        refine zz_istore dL_areRows_338 (by decide) ?_
        refine zz_goto (tgt := 287) dL_areRows_340 (by decide) ?_
        refine zz_lvl (lv2 := [(16, .int (dnX i)), (15, .int (nI h)), (14, .int (nI q)), (13, .int 1), (7, .int (nI a)), (0, .ref 52), (1, .ref 57), (2, .int (nI r)), (3, .int (nI n)), (4, .ref 54), (5, .ref 55)]) ⟨rfl, rfl, rfl, rfl, rfl, rfl, rfl, rfl, rfl, rfl, rfl, trivial⟩ ?_
        refine ih (by omega) (fun k k1 k2 => ?_)
        by_cases e : k = i
        · rw [e]; exact bq_f h321
        · exact h0 k (by omega) k2
set_option maxHeartbeats 1000000 in
set_option maxRecDepth 20000 in
theorem ar_w {r a h q : Nat} (ha : a < n) (hq : q < n) (hn : n ≤ 80) (hh : h < 4) {A : Nat → Bool} (hA : ∀ k, k < n → MB 54 (80 * a + k) = A k) (rc rz : Nat) (K : ∀ x : Int32, (∀ v, (if h < 2 then upS (fun k => A k == (h % 2 == 0)) n q v else dnS (fun k => A k == (h % 2 == 0)) q v) → (nI n ≤ x → v = -1) ∧ (¬ nI n ≤ x → v = x)) → zz_E mL_areRows none 9 rc rz (trQ n T) 343 [(16, .int x), (15, .int (nI h)), (14, .int (nI q)), (13, .int 1), (7, .int (nI a)), (0, .ref 52), (1, .ref 57), (2, .int (nI r)), (3, .int (nI n)), (4, .ref 54), (5, .ref 55)] [] (px El Lo Hi BL BH Od Ls (nI n) (pl MB rho nu T))) : zz_E mL_areRows none 9 rc rz (trQ n T) 287 [(16, .int (nI q)), (15, .int (nI h)), (14, .int (nI q)), (13, .int 1), (7, .int (nI a)), (0, .ref 52), (1, .ref 57), (2, .int (nI r)), (3, .int (nI n)), (4, .ref 54), (5, .ref 55)] [] (px El Lo Hi BL BH Od Ls (nI n) (pl MB rho nu T)) := by
  by_cases h2 : h < 2
  · exact ar_up ha hq hn hh hA h2 rc rz (fun j j1 j2 j3 j4 => K _ (fun v hv => by
      rw [if_pos h2] at hv
      exact up_x hn j1 j2 j3 j4 hv)) (n - q) q (by omega) (Nat.le_refl q) (fun k k1 k2 => absurd k1 (by omega))
  · exact ar_dn ha hq hn hh hA h2 rc rz (fun t t1 t2 t3 => K _ (fun v hv => by
      rw [if_neg h2] at hv
      exact dn_x hn hq t1 t2 t3 hv)) (q + 1) (Nat.le_refl _) (fun k k1 k2 => absurd k1 (by omega))
end ZYR1d
