section ZYB2
variable {El : Nat → Int32} {Lo Hi : Nat → Nat → Int64} {BL BH : Nat → Int64} {Od : Nat → Nat → Int32} {Ls : Nat → Int32} {n : Nat} {R : Nat → Nat → Nat → Bool} {mk : Nat → Bool} {MB : Nat → Nat → Bool} {rho nu : Nat → Int32} {T : zz_St}
theorem sb1 (x : Int64) {k : Nat} (hk : k < 64) : ((x.toUInt64 >>> ((nI k).toInt64.toUInt64 &&& Int64.toUInt64 63)).toInt64 &&& 1) = if x.toBitVec.getLsbD k = true then 1 else 0 := by
  obtain ⟨m, hm, rfl⟩ := wb_of x
  have h0 := ts_bit (w := lN m) (s := (nI k).toInt64.toUInt64 &&& Int64.toUInt64 63) hk (by rw [wb_cu k hk]; exact u_tn1 k hk)
  rw [wb_bit hm hk] at h0 ⊢
  rcases Nat.mod_two_eq_zero_or_one (m / 2 ^ k) with h | h
  · rw [h] at h0 ⊢
    rw [h0.mp rfl]
    rfl
  · rw [h] at h0 ⊢
    cases e : (lN m).toBitVec.getLsbD k with
    | true => rfl
    | false => exact absurd (h0.mpr e) (by decide)
theorem zz_b1 {M : zz_M} {sc : Option (Nat × (Nat → Int32))} {d rc rz : Nat} {Q : zz_Q} {pc : Nat} {lv : List (Nat × Value)} {st : List Value} {σ : zz_St} {y : Int64} {b : Bool} (hy : y &&& 1 = if b = true then 1 else 0)
    (d0 : decode M.2.1 pc = .ok (.lconst 1, 1)) (d1 : decode M.2.1 (pc + 1) = .ok (.land, 1)) (d2 : decode M.2.1 (pc + 2) = .ok (.lconst 1, 1)) (d3 : decode M.2.1 (pc + 3) = .ok (.lcmp, 1)) (d4 : decode M.2.1 (pc + 4) = .ok (.ifCond .ne 7, 3)) (d7 : decode M.2.1 (pc + 7) = .ok (.iconst 1, 1)) (d8 : decode M.2.1 (pc + 8) = .ok (.goto 4, 3)) (d11 : decode M.2.1 (pc + 11) = .ok (.iconst 0, 1))
    (K : zz_E M sc d rc rz Q (pc + 12) lv (.int (zB b) :: st) σ) : zz_E M sc d rc rz Q pc lv (.long y :: st) σ := by
  refine zz_lconst (v := 1) d0 (by decide) ?_
  refine zz_land d1 ?_
  refine zz_lconst (v := 1) d2 (by decide) ?_
  refine zz_lcmp d3 ?_
  rw [hy]
  cases b with
  | true =>
    refine zz_if_ne (tgt := pc + 11) d4 (by omega) (fun h => absurd (by decide) h) (fun _ => ?_)
    refine zz_iconst (v := 1) d7 (by decide) ?_
    exact zz_goto (tgt := pc + 12) d8 (by omega) K
  | false =>
    refine zz_if_ne (tgt := pc + 11) d4 (by omega) (fun _ => ?_) (fun h => absurd h (by decide))
    exact zz_iconst (v := 0) d11 (by decide) K
/-- rows below i, and of row i what lies below k -/
def grp (n : Nat) (f : Nat → Bool) (X : Nat → Nat → Bool) (i k : Nat) : Prop := ∀ a c, a < n → c < n → (a < i ∨ (a = i ∧ c < k)) → f (80 * a + c) = X a c
theorem grp_0 (n : Nat) (f : Nat → Bool) (X : Nat → Nat → Bool) : grp n f X 0 0 := fun a c _ _ h => by omega
theorem grp_n {n : Nat} {f : Nat → Bool} {X : Nat → Nat → Bool} (h : grp n f X n 0) : gr n f X := fun a c ha hc => h a c ha hc (by omega)
theorem grp_r {n : Nat} {f : Nat → Bool} {X : Nat → Nat → Bool} {i : Nat} (h : grp n f X i n) : grp n f X (i + 1) 0 := fun a c ha hc q => h a c ha hc (by omega)
theorem grp_s {n : Nat} {f : Nat → Bool} {X : Nat → Nat → Bool} {i k : Nat} (hn : n ≤ 80) (hi : i < n) (hk : k < n) (h : grp n f X i k) : grp n (va_up f (80 * i + k) (X i k)) X i (k + 1) := fun a c ha hc q => by
  by_cases e : a = i ∧ c = k
  · obtain ⟨rfl, rfl⟩ := e
    rw [up_at]
  · rw [up_ne _ _ (fun q => e (gx (by omega) (by omega) q))]
    exact h a c ha hc (by omega)
theorem sm_s (g : Nat → Nat) (i : Nat) : sm g (i + 1) = sm g i + g i := rfl
theorem see_lo {R : Nat → Nat → Bool} {n i k : Nat} (hk : k < 64) (hkn : k < n) : ((wrd (fun k => decide (64 * 0 + k < n) && R i (64 * 0 + k)) 64).toUInt64 >>> ((nI k).toInt64.toUInt64 &&& Int64.toUInt64 63)).toInt64 &&& 1 = if R i k = true then 1 else 0 := by
  rw [sb1 _ hk, wrd_bit _ 64 (Nat.le_refl _) k hk]
  simp only [Nat.mul_zero, Nat.zero_add, decide_eq_true hk, decide_eq_true hkn, Bool.true_and]
theorem see_hi {R : Nat → Nat → Bool} {n i k : Nat} (h64 : 64 ≤ k) (hkn : k < n) (hn : n ≤ 80) : ((wrd (fun k => decide (64 * 1 + k < n) && R i (64 * 1 + k)) 64).toUInt64 >>> ((nI (k - 64)).toInt64.toUInt64 &&& Int64.toUInt64 63)).toInt64 &&& 1 = if R i k = true then 1 else 0 := by
  rw [sb1 _ (show k - 64 < 64 by omega), wrd_bit _ 64 (Nat.le_refl _) (k - 64) (by omega)]
  simp only [Nat.mul_one, show 64 + (k - 64) = k by omega, decide_eq_true (show k - 64 < 64 by omega), decide_eq_true hkn, Bool.true_and]
end ZYB2
