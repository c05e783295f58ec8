section ZYT
variable {El : Nat → Int32} {Lo Hi : Nat → Nat → Int64} {BL BH : Nat → Int64} {Od : Nat → Nat → Int32} {Ls : Nat → Int32} {n : Nat} {R : Nat → Nat → Nat → Bool} {mk : Nat → Bool} {MB : Nat → Nat → Bool} {rho nu : Nat → Int32} {T : zz_St}
theorem dc_nan {x : UInt64} (h : vf_n64 x) : Jvm.FP.Core.decode Jvm.FP.Core.b64 x.toNat ≠ .nan := by
  unfold vf_n64 at h
  rw [UInt64.le_iff_toNat_le, UInt64.toNat_and] at h
  have h : x.toNat &&& (2 ^ 63 - 1) ≤ 9218868437227405312 := h
  rw [Nat.and_two_pow_sub_one_eq_mod] at h
  have e1 : Jvm.FP.Core.b64.tails = 4503599627370496 := by decide +kernel
  have e2 : Jvm.FP.Core.b64.exps = 2048 := by decide +kernel
  unfold Jvm.FP.Core.decode Jvm.FP.Core.fieldE Jvm.FP.Core.fieldT
  rw [e1, e2]
  intro q
  by_cases a : x.toNat / 4503599627370496 % 2048 = 2048 - 1
  · rw [if_pos a, if_pos (by omega)] at q
    cases q
  · rw [if_neg a] at q
    split at q <;> cases q
theorem dc_cmp (a : Int) : compare a a = .eq := by simp [compare, compareOfLessAndEq]
theorem dc_ord {d : Jvm.FP.Core.Datum} (h : d ≠ .nan) : Jvm.FP.Core.order d d = some .eq := by
  cases d with
  | nan => exact absurd rfl h
  | inf s => exact congrArg some (dc_cmp _)
  | fin s c q => exact congrArg some (dc_cmp _)
theorem dc_self {x : UInt64} (h : vf_n64 x) : FP.dcmp x x = some .eq := dc_ord (dc_nan h)
theorem st_z {X : Nat → Nat → Bool} {a b : Nat} {v : Int32} (hn : n ≤ 80) (hb : b < n) (h : stS X n a b v) : (v ≤ 0 → (0 : Int32) = zB (rchB X n a b)) ∧ (¬ v ≤ 0 → (1 : Int32) = zB (rchB X n a b)) := by
  refine ⟨fun q => ?_, fun q => ?_⟩
  · rw [(rchB_f hb).mpr (stS_le hn h q)]
    rfl
  · obtain ⟨d1, _, _, hd⟩ := stS_lt hn h q
    rw [(rchB_t hb).mpr (dst_r hd)]
    rfl
theorem lsN_no {A : Nat → Nat → Bool} {x : Nat} (h : ∀ j, j < x → (A j x && A x j) = false) : lsN A x = x := by
  rcases ff_s (show ff (fun a => A a x && A x a) x 0 = lsN A x from rfl) with ⟨h1, _⟩ | ⟨_, h2, h3, _⟩
  · omega
  · rw [h _ (by omega)] at h3
    cases h3
theorem lsN_at {A : Nat → Nat → Bool} {x i : Nat} (hi : i < x) (h : ∀ j, j < i → (A j x && A x j) = false) (h1 : A i x = true) (h2 : A x i = true) : lsN A x = i :=
  ff_is (Nat.zero_le i) (by omega) (by rw [h1, h2]; rfl) (fun k _ hk => h k hk)
theorem clO_2 {X : Nat → Nat → Bool} {b : Bool} {i k : Nat} (hi : i < n) (hk : k < n) : clO (clO X n b) n false i k = clO X n b i k := by
  show (rchB (clO X n b) n i k || (false && decide (i = k))) = _
  rw [clO_cl hi hk, Bool.false_and, Bool.or_false]
/-- what compare says of a relation and its closure -/
theorem cm_v {X Y : Nat → Nat → Bool} (h : ∀ i k, i < n → k < n → X i k = true → Y i k = true) : (pn n Y = pn n X ∧ cmV (!(sbR n X Y)) (!(sbR n Y X)) = 0) ∨ (pn n Y ≠ pn n X ∧ cmV (!(sbR n X Y)) (!(sbR n Y X)) = 2) := by
  by_cases q : ∀ i k, i < n → k < n → Y i k = true → X i k = true
  · have e2 : sbR n Y X = true := sbR_t.mpr q
    have e3 : ∀ i k, i < n → k < n → Y i k = X i k := fun i k hi hk => bo_ext ⟨q i k hi hk, h i k hi hk⟩
    have e4 : sbR n X Y = true := sbR_t.mpr h
    refine Or.inl ⟨pn_c e3, ?_⟩
    rw [e2, e4]
    rfl
  · have e2 : sbR n Y X = false := by
      cases e : sbR n Y X with
      | false => rfl
      | true => exact absurd (sbR_t.mp e) q
    have e4 : sbR n X Y = true := sbR_t.mpr h
    refine Or.inr ⟨fun e => q (fun i k hi hk hy => ?_), ?_⟩
    · rw [pn_eq h e.symm i k hi hk]
      exact hy
    · rw [e2, e4]
      rfl
theorem y_close {X : Nat → Nat → Bool} (b : Bool) (e : R 3 = X) (hI : cI n El Lo Hi BL BH R mk) : zz_C mX4_close 7 1 6 [.ref 52, .int (nI 3), .int (zB b)] (px El Lo Hi BL BH Od Ls (nI n) T) (xQ n (va_up R 3 (clO X n b)) mk T (.inl (some (.int (nI (pn n (clO X n b))))))) := by
  subst e
  exact x_close_v (by omega) b hI
theorem y_is {X : Nat → Nat → Bool} {w : Nat} (hw : w < 6) (e : R 3 = X) (h1 : isV n X w = true) (hI : cI n El Lo Hi BL BH R mk) : zz_C mX4_is 7 1 6 [.ref 52, .int (nI 3), .int (nI w)] (px El Lo Hi BL BH Od Ls (nI n) T) (xQ n R mk T (.inl (some (.int (zB true))))) := by
  subst e
  rw [← h1]
  exact x_is_v (by omega) hw hI
theorem y_compare {r : Nat} {X Y : Nat → Nat → Bool} (hr : r < 4) (eX : R r = X) (eY : R 3 = Y) (hI : cI n El Lo Hi BL BH R mk) : zz_C mX4_compare 7 1 6 [.ref 52, .int (nI r), .int (nI 3)] (px El Lo Hi BL BH Od Ls (nI n) T) (xQ n R mk T (.inl (some (.int (cmV (!(sbR n X Y)) (!(sbR n Y X))))))) := by
  subst eX
  subst eY
  exact x_compare_v hr (by omega) hI
theorem y_meanRow {r : Nat} (hr : r < 4) (hI : cI n El Lo Hi BL BH R mk) : zz_C mX4_meanRow 7 1 6 [.ref 52, .int (nI r)] (px El Lo Hi BL BH Od Ls (nI n) T) (xQ n R mk T (.inl (some (.double (FP.ddiv (FP.i2d (nI (pn n (R r)))) (FP.i2d (nI n))))))) := x_meanRow_v hr hI
end ZYT
