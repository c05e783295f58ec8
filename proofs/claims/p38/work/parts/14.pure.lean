section ZZU
/-! ===== Int64 as a set of bits: test, set, clear ===== -/
theorem ts_nf {x : Bool} (h : ¬ x = false) : x = true := by cases x <;> first | rfl | exact absurd rfl h
theorem ts_nt {x : Bool} (h : ¬ x = true) : x = false := by cases x <;> first | rfl | exact absurd rfl h
theorem ts_bit {w : Int64} {s : UInt64} {j : Nat} (hj : j < 64) (hs : s.toNat = j) : ((w.toUInt64 >>> s).toInt64 &&& 1) = 0 ↔ w.toBitVec.getLsbD j = false := by
  have e : (w.toUInt64 >>> s).toInt64.toBitVec = w.toBitVec >>> j := by
    apply BitVec.eq_of_toNat_eq
    show (w.toUInt64 >>> s).toNat = _
    rw [UInt64.toNat_shiftRight, hs, Nat.mod_eq_of_lt hj, BitVec.toNat_ushiftRight]
    rfl
  rw [← Int64.toBitVec_inj, Int64.toBitVec_and, e]
  show w.toBitVec >>> j &&& 1#64 = 0#64 ↔ _
  constructor
  · intro h
    have t := congrArg (fun x => x.getLsbD 0) h
    simpa using t
  · intro h
    apply BitVec.eq_of_getLsbD_eq
    intro i hi
    cases i with
    | zero => simp [h]
    | succ i => simp
theorem ts_or {w m : Int64} {j : Nat} (hj : j < 64) (hm : m.toBitVec = BitVec.twoPow 64 j) : (w ||| m) = w ↔ w.toBitVec.getLsbD j = true := by
  rw [← Int64.toBitVec_inj, Int64.toBitVec_or, hm]
  constructor
  · intro h
    have t := congrArg (fun x => x.getLsbD j) h
    simp only [BitVec.getLsbD_or, BitVec.getLsbD_twoPow] at t
    simpa [hj] using t.symm
  · intro h
    apply BitVec.eq_of_getLsbD_eq
    intro i hi
    rw [BitVec.getLsbD_or, BitVec.getLsbD_twoPow]
    by_cases e : j = i
    · subst e; rw [h, Bool.true_or]
    · simp [e]
theorem ts_and {w m : Int64} {j : Nat} (hj : j < 64) (hm : m.toBitVec = BitVec.twoPow 64 j) : (w &&& (m ^^^ (-1))) = w ↔ w.toBitVec.getLsbD j = false := by
  have ha : (-1 : Int64).toBitVec = BitVec.allOnes 64 := by decide
  rw [← Int64.toBitVec_inj, Int64.toBitVec_and, Int64.toBitVec_xor, hm, ha]
  constructor
  · intro h
    have t := congrArg (fun x => x.getLsbD j) h
    simp only [BitVec.getLsbD_and, BitVec.getLsbD_xor, BitVec.getLsbD_twoPow, BitVec.getLsbD_allOnes] at t
    simpa [hj] using t.symm
  · intro h
    apply BitVec.eq_of_getLsbD_eq
    intro i hi
    rw [BitVec.getLsbD_and, BitVec.getLsbD_xor, BitVec.getLsbD_twoPow, BitVec.getLsbD_allOnes]
    by_cases e : j = i
    · subst e; rw [h, Bool.false_and]
    · simp [e, hi]
/-! ===== lN n to 2^64: shifts, and, or, masks, one bit ===== -/
theorem wb_tb (n : Nat) : (lN n).toBitVec = BitVec.ofNat 64 n := rfl
theorem wb_inj {a b : Int64} (h : a.toBitVec = b.toBitVec) : a = b := Int64.toBitVec_inj.mp h
theorem wb_tn {n : Nat} (h : n < 2 ^ 64) : (lN n).toBitVec.toNat = n := by rw [wb_tb, BitVec.toNat_ofNat, Nat.mod_eq_of_lt h]
theorem wb_of (x : Int64) : ∃ n, n < 2 ^ 64 ∧ x = lN n := ⟨x.toBitVec.toNat, x.toBitVec.isLt, wb_inj (by rw [wb_tb]; simp)⟩
theorem wb_of32 (x : Int32) : ∃ n, n < 2 ^ 32 ∧ x = nI n := ⟨x.toBitVec.toNat, x.toBitVec.isLt, Int32.toBitVec_inj.mp (by show _ = BitVec.ofNat 32 _; simp)⟩
theorem wb_c : ∀ k, k < 64 → ((nI k).toInt64 &&& 63) = lN k := by decide +kernel
theorem wb_cu : ∀ k, k < 64 → ((nI k).toInt64.toUInt64 &&& Int64.toUInt64 63) = UInt64.ofNat k := by decide +kernel
theorem wb_sm : ∀ k, k < 64 → (BitVec.ofNat 64 k).smod 64 = BitVec.ofNat 64 k := by decide +kernel
theorem wb_pw {a b : Nat} (h : a ≤ b) : 2 ^ b = 2 ^ a * 2 ^ (b - a) := by rw [← Nat.pow_add]; congr 1; omega
theorem wb_lt2 {a b : Nat} (h : a < b) : 2 ^ a < 2 ^ b := Nat.pow_lt_pow_right (by decide) h
theorem wb_mod (n : Nat) : lN n = lN (n % 2 ^ 64) := wb_inj (by rw [wb_tb, wb_tb]; apply BitVec.eq_of_toNat_eq; rw [BitVec.toNat_ofNat, BitVec.toNat_ofNat, Nat.mod_mod])
theorem wb_shr {n k : Nat} (hn : n < 2 ^ 64) (hk : k < 64) : ((lN n).toUInt64 >>> ((nI k).toInt64.toUInt64 &&& Int64.toUInt64 63)).toInt64 = lN (n / 2 ^ k) := by
  rw [wb_cu k hk]
  apply wb_inj
  apply BitVec.eq_of_toNat_eq
  show ((lN n).toUInt64 >>> UInt64.ofNat k).toNat = (BitVec.ofNat 64 _).toNat
  have h1 : (UInt64.ofNat k).toNat = k := by
    show (BitVec.ofNat 64 k).toNat = k
    rw [BitVec.toNat_ofNat, Nat.mod_eq_of_lt (by omega)]
  have h2 : (lN n).toUInt64.toNat = n := wb_tn hn
  rw [UInt64.toNat_shiftRight, h1, h2, Nat.mod_eq_of_lt hk, Nat.shiftRight_eq_div_pow, BitVec.toNat_ofNat, Nat.mod_eq_of_lt (Nat.lt_of_le_of_lt (Nat.div_le_self _ _) hn)]
theorem wb_shl (n : Nat) {k : Nat} (hk : k < 64) : lN n <<< ((nI k).toInt64 &&& 63) = lN (n * 2 ^ k) := by
  rw [wb_c k hk]
  apply wb_inj
  rw [Int64.toBitVec_shiftLeft, wb_tb, wb_tb, wb_tb, wb_sm k hk]
  apply BitVec.eq_of_toNat_eq
  rw [BitVec.shiftLeft_eq', BitVec.toNat_shiftLeft, BitVec.toNat_ofNat, BitVec.toNat_ofNat, BitVec.toNat_ofNat, Nat.mod_eq_of_lt (show k < 2 ^ 64 by omega), Nat.shiftLeft_eq, Nat.mul_mod, Nat.mod_mod, ← Nat.mul_mod]
theorem wb_and {a b : Nat} (ha : a < 2 ^ 64) (hb : b < 2 ^ 64) : lN a &&& lN b = lN (a &&& b) := by
  apply wb_inj
  rw [Int64.toBitVec_and, wb_tb, wb_tb, wb_tb]
  apply BitVec.eq_of_toNat_eq
  rw [BitVec.toNat_and, BitVec.toNat_ofNat, BitVec.toNat_ofNat, BitVec.toNat_ofNat, Nat.mod_eq_of_lt ha, Nat.mod_eq_of_lt hb, Nat.mod_eq_of_lt (Nat.and_lt_two_pow _ hb)]
theorem wb_or {a b : Nat} (ha : a < 2 ^ 64) (hb : b < 2 ^ 64) : lN a ||| lN b = lN (a ||| b) := by
  apply wb_inj
  rw [Int64.toBitVec_or, wb_tb, wb_tb, wb_tb]
  apply BitVec.eq_of_toNat_eq
  rw [BitVec.toNat_or, BitVec.toNat_ofNat, BitVec.toNat_ofNat, BitVec.toNat_ofNat, Nat.mod_eq_of_lt ha, Nat.mod_eq_of_lt hb, Nat.mod_eq_of_lt (Nat.or_lt_two_pow ha hb)]
theorem wb_mask {n k : Nat} (hn : n < 2 ^ 64) (hk : k < 64) : lN n &&& lN (2 ^ k - 1) = lN (n % 2 ^ k) := by
  rw [wb_and hn (by have := wb_lt2 hk; omega), Nat.and_two_pow_sub_one_eq_mod]
theorem wb_a1 {n : Nat} (hn : n < 2 ^ 64) : lN n &&& 1 = lN (n % 2) := wb_mask (k := 1) hn (by decide)
theorem wb_bit {n k : Nat} (hn : n < 2 ^ 64) (hk : k < 64) : ((lN n).toUInt64 >>> ((nI k).toInt64.toUInt64 &&& Int64.toUInt64 63)).toInt64 &&& 1 = lN (n / 2 ^ k % 2) := by
  rw [wb_shr hn hk, wb_a1 (Nat.lt_of_le_of_lt (Nat.div_le_self _ _) hn)]
theorem wb_xor {q k : Nat} (hk : k < 63) (h : 2 ^ k ≤ q) (h2 : q < 2 ^ (k + 1)) : lN q ^^^ lN (2 ^ k) = lN (q - 2 ^ k) := by
  obtain ⟨r, rfl⟩ : ∃ r, q = 2 ^ k + r := ⟨q - 2 ^ k, by omega⟩
  have hr : r < 2 ^ k := by rw [Nat.pow_succ] at h2; omega
  have hx : (2 ^ k + r) ^^^ 2 ^ k = r := by
    apply Nat.eq_of_testBit_eq
    intro i
    rw [Nat.testBit_xor, Nat.testBit_two_pow]
    rcases Nat.lt_trichotomy i k with h | h | h
    · rw [Nat.testBit_two_pow_add_gt h]
      simp [show ¬ k = i by omega]
    · subst h
      rw [Nat.testBit_two_pow_add_eq]
      simp
    · have a1 : 2 ^ (k + 1) ≤ 2 ^ i := Nat.pow_le_pow_right (by decide) h
      rw [Nat.testBit_lt_two_pow (show 2 ^ k + r < 2 ^ i by omega), Nat.testBit_lt_two_pow (show r < 2 ^ i by omega)]
      simp [show ¬ k = i by omega]
  have b1 := wb_lt2 (show k + 1 < 64 by omega)
  have b2 := wb_lt2 (show k < 64 by omega)
  apply wb_inj
  rw [Int64.toBitVec_xor, wb_tb, wb_tb, wb_tb]
  apply BitVec.eq_of_toNat_eq
  rw [BitVec.toNat_xor, BitVec.toNat_ofNat, BitVec.toNat_ofNat, BitVec.toNat_ofNat, Nat.mod_eq_of_lt (by omega : 2 ^ k + r < 2 ^ 64), Nat.mod_eq_of_lt b2, hx, Nat.add_sub_cancel_left, Nat.mod_eq_of_lt (by omega)]
/-! two words as a set of numbers below 128 -/
def tb (lo hi : Int64) (k : Nat) : Bool := if k < 64 then lo.toBitVec.getLsbD k else hi.toBitVec.getLsbD (k - 64)
theorem w_m1 : (-1 : Int64).toBitVec = BitVec.allOnes 64 := by decide
theorem w_and (a b : Int64) (j : Nat) : (a &&& b).toBitVec.getLsbD j = (a.toBitVec.getLsbD j && b.toBitVec.getLsbD j) := by rw [Int64.toBitVec_and, BitVec.getLsbD_and]
theorem w_or (a b : Int64) (j : Nat) : (a ||| b).toBitVec.getLsbD j = (a.toBitVec.getLsbD j || b.toBitVec.getLsbD j) := by rw [Int64.toBitVec_or, BitVec.getLsbD_or]
theorem w_xor (a b : Int64) (j : Nat) : (a ^^^ b).toBitVec.getLsbD j = (a.toBitVec.getLsbD j ^^ b.toBitVec.getLsbD j) := by rw [Int64.toBitVec_xor, BitVec.getLsbD_xor]
theorem w_not (a : Int64) {j : Nat} (h : j < 64) : (a ^^^ -1).toBitVec.getLsbD j = !(a.toBitVec.getLsbD j) := by
  rw [w_xor, w_m1, BitVec.getLsbD_allOnes, decide_eq_true h]
  cases a.toBitVec.getLsbD j <;> rfl
theorem w_0 (j : Nat) : (0 : Int64).toBitVec.getLsbD j = false := BitVec.getLsbD_zero
theorem w_ext {a b : Int64} (h : ∀ j, j < 64 → a.toBitVec.getLsbD j = b.toBitVec.getLsbD j) : a = b := Int64.toBitVec_inj.mp (BitVec.eq_of_getLsbD_eq (fun i hi => h i hi))
theorem w_z {a : Int64} : a = 0 ↔ ∀ j, j < 64 → a.toBitVec.getLsbD j = false := ⟨fun h j _ => by rw [h]; exact w_0 j, fun h => w_ext (fun j hj => by rw [h j hj, w_0])⟩
theorem tb_and (a b c d : Int64) (k : Nat) : tb (a &&& b) (c &&& d) k = (tb a c k && tb b d k) := by unfold tb; split <;> exact w_and _ _ _
theorem tb_or (a b c d : Int64) (k : Nat) : tb (a ||| b) (c ||| d) k = (tb a c k || tb b d k) := by unfold tb; split <;> exact w_or _ _ _
theorem tb_xor (a b c d : Int64) (k : Nat) : tb (a ^^^ b) (c ^^^ d) k = (tb a c k ^^ tb b d k) := by unfold tb; split <;> exact w_xor _ _ _
theorem tb_not (a c : Int64) {k : Nat} (h : k < 128) : tb (a ^^^ -1) (c ^^^ -1) k = !(tb a c k) := by
  unfold tb
  split
  · exact w_not _ (by omega)
  · exact w_not _ (by omega)
theorem tb_0 (k : Nat) : tb 0 0 k = false := by unfold tb; split <;> exact w_0 _
theorem tb_big {lo hi : Int64} {k : Nat} (h : 128 ≤ k) : tb lo hi k = false := by
  unfold tb
  rw [if_neg (by omega)]
  exact BitVec.getLsbD_of_ge _ _ (by omega)
theorem tb_ext {a b c d : Int64} (h : ∀ k, k < 128 → tb a b k = tb c d k) : a = c ∧ b = d := by
  constructor
  · refine w_ext (fun j hj => ?_)
    have := h j (by omega)
    unfold tb at this
    rwa [if_pos hj, if_pos hj] at this
  · refine w_ext (fun j hj => ?_)
    have := h (j + 64) (by omega)
    unfold tb at this
    rwa [if_neg (by omega), if_neg (by omega), Nat.add_sub_cancel] at this
theorem tb_z {a b : Int64} : (a = 0 ∧ b = 0) ↔ ∀ k, k < 128 → tb a b k = false := by
  constructor
  · rintro ⟨rfl, rfl⟩ k _
    exact tb_0 k
  · intro h
    exact tb_ext (fun k hk => by rw [h k hk, tb_0])
set_option maxRecDepth 100000 in
theorem bel_bit0 : ∀ e, e < 129 → ∀ j, j < 64 → (bel (nI e)).toBitVec.getLsbD j = decide (j < e) := by decide +kernel
set_option maxRecDepth 100000 in
theorem bel_bit1 : ∀ e, e < 129 → ∀ j, j < 64 → (bel (nI e - 64)).toBitVec.getLsbD j = decide (j + 64 < e) := by decide +kernel
theorem tb_rng {a b k : Nat} (ha : a < 129) (hb : b < 129) (hk : k < 128) : tb (lwR (nI a) (nI b)) (hgR (nI a) (nI b)) k = decide (a ≤ k ∧ k < b) := by
  unfold tb lwR hgR
  split
  · rename_i h
    rw [w_and, w_not _ h, bel_bit0 b hb k h, bel_bit0 a ha k h]
    by_cases h1 : k < b <;> by_cases h2 : k < a <;> simp [h1, h2] <;> omega
  · rename_i h
    rw [w_and, w_not _ (by omega), bel_bit1 b hb _ (by omega), bel_bit1 a ha _ (by omega)]
    by_cases h1 : k < b <;> by_cases h2 : k < a
    · have : k - 64 + 64 < b := by omega
      have : k - 64 + 64 < a := by omega
      simp_all; try omega
    · have : k - 64 + 64 < b := by omega
      have : ¬ k - 64 + 64 < a := by omega
      simp_all; try omega
    · have : ¬ k - 64 + 64 < b := by omega
      have : k - 64 + 64 < a := by omega
      simp_all; try omega
    · have : ¬ k - 64 + 64 < b := by omega
      have : ¬ k - 64 + 64 < a := by omega
      simp_all; try omega
theorem u_tn1 : ∀ k, k < 64 → (UInt64.ofNat k).toNat = k := by decide +kernel
theorem i64 : (64 : Int32) = nI 64 := rfl
theorem nI_m64 : ∀ k, 64 ≤ k → k < 128 → nI k - 64 = nI (k - 64) := fun k h _ => pk_sub h
theorem hld_tb {lo hi : Int64} {k : Nat} (hk : k < 128) : hld lo hi (nI k) = tb lo hi k := by
  unfold hld tb
  by_cases h : k < 64
  · rw [if_pos h, if_pos (show nI k < (64 : Int32) from nI_lt (b := 64) h (by omega))]
    have h1 := @ts_bit lo ((nI k).toInt64.toUInt64 &&& Int64.toUInt64 63) k h (by rw [wb_cu k h]; exact u_tn1 k h)
    unfold sh64
    rw [Bool.eq_iff_iff, decide_eq_true_iff, h1]
    cases lo.toBitVec.getLsbD k <;> simp
  · rw [if_neg h, if_neg (show ¬ nI k < (64 : Int32) from by rw [i64, nI_ltI (by omega) (by omega)]; exact h), nI_m64 k (by omega) hk]
    have h2 : k - 64 < 64 := by omega
    have h1 := @ts_bit hi ((nI (k - 64)).toInt64.toUInt64 &&& Int64.toUInt64 63) (k - 64) h2 (by rw [wb_cu _ h2]; exact u_tn1 _ h2)
    unfold sh64
    rw [Bool.eq_iff_iff, decide_eq_true_iff, h1]
    cases hi.toBitVec.getLsbD (k - 64) <;> simp
/-! the least bit -/
set_option maxRecDepth 100000 in
theorem pol_pow : ∀ t, t < 64 → bcn (Int64.ofBitVec (BitVec.twoPow 64 t) - 1) = nI t := by decide +kernel
theorem pol_of {x : Int64} {t : Nat} (ht : t < 64) (h : x.toBitVec.getLsbD t = true) (hl : ∀ k, k < t → x.toBitVec.getLsbD k = false) : pol x = nI t := by
  have e : x &&& -x = Int64.ofBitVec (BitVec.twoPow 64 t) := by
    apply Int64.toBitVec_inj.mp
    apply BitVec.eq_of_getLsbD_eq
    intro i hi
    rw [Int64.toBitVec_and, BitVec.getLsbD_and, Int64.toBitVec_neg, BitVec.getLsbD_neg, Int64.toBitVec_ofBitVec, BitVec.getLsbD_twoPow]
    by_cases h1 : i < t
    · rw [hl i h1]
      have : ¬ t = i := by omega
      simp [this]
    · by_cases h2 : i = t
      · subst h2
        rw [h]
        have : ¬ ∃ j, j < i ∧ x.toBitVec.getLsbD j = true := by
          rintro ⟨j, hj, hx⟩
          rw [hl j hj] at hx
          cases hx
        simp [this, hi]
      · have h3 : ∃ j, j < i ∧ x.toBitVec.getLsbD j = true := ⟨t, by omega, h⟩
        have h4 : ¬ t = i := by omega
        simp only [h3, h4, hi, decide_true, decide_false, Bool.true_and]
        cases x.toBitVec.getLsbD i <;> simp
  unfold pol
  rw [e]
  exact pol_pow t ht
theorem w_least {x : Int64} (h : x ≠ 0) : ∃ t, t < 64 ∧ x.toBitVec.getLsbD t = true ∧ ∀ k, k < t → x.toBitVec.getLsbD k = false := by
  have h1 : ∃ t, t < 64 ∧ x.toBitVec.getLsbD t = true := by
    refine Classical.byContradiction (fun hn => h (w_z.mpr (fun j hj => ?_)))
    cases hb : x.toBitVec.getLsbD j
    · rfl
    · exact absurd ⟨j, hj, hb⟩ hn
  obtain ⟨t, ⟨ht, hb⟩, hl⟩ := pk_least (fun t => t < 64 ∧ x.toBitVec.getLsbD t = true) h1
  refine ⟨t, ht, hb, fun k hk => ?_⟩
  cases hx : x.toBitVec.getLsbD k
  · rfl
  · exact absurd ⟨by omega, hx⟩ (hl k hk)
/-- what leastFrom finds: none, or the least one from e on -/
theorem lsf_spec (lo hi : Int64) {e : Nat} (he : e < 129) : (lsf lo hi (nI e) = -1 ∧ ∀ k, e ≤ k → tb lo hi k = false) ∨ ∃ j, j < 128 ∧ e ≤ j ∧ tb lo hi j = true ∧ (∀ k, e ≤ k → k < j → tb lo hi k = false) ∧ lsf lo hi (nI e) = nI j := by
  have b0 : ∀ j, j < 64 → (lo &&& (bel (nI e) ^^^ -1)).toBitVec.getLsbD j = (lo.toBitVec.getLsbD j && !decide (j < e)) := fun j hj => by
    rw [w_and, w_not _ hj, bel_bit0 e he j hj]
  have b1 : ∀ j, j < 64 → (hi &&& (bel (nI e - 64) ^^^ -1)).toBitVec.getLsbD j = (hi.toBitVec.getLsbD j && !decide (j + 64 < e)) := fun j hj => by
    rw [w_and, w_not _ hj, bel_bit1 e he j hj]
  unfold lsf
  by_cases h0 : lo &&& (bel (nI e) ^^^ -1) = 0
  · have z0 : ∀ k, e ≤ k → k < 64 → tb lo hi k = false := by
      intro k h1 h2
      have := w_z.mp h0 k h2
      rw [b0 k h2] at this
      unfold tb
      rw [if_pos h2]
      have h3 : ¬ k < e := by omega
      simpa [h3] using this
    rw [if_pos h0]
    by_cases h1 : hi &&& (bel (nI e - 64) ^^^ -1) = 0
    · rw [if_pos h1]
      refine Or.inl ⟨rfl, fun k hk => ?_⟩
      by_cases h2 : k < 64
      · exact z0 k hk h2
      · by_cases h3 : k < 128
        · have := w_z.mp h1 (k - 64) (by omega)
          rw [b1 _ (by omega)] at this
          unfold tb
          rw [if_neg h2]
          have h4 : ¬ k - 64 + 64 < e := by omega
          simpa [h4] using this
        · exact tb_big (by omega)
    · rw [if_neg h1]
      obtain ⟨t, ht, hb, hl⟩ := w_least h1
      rw [b1 t ht] at hb
      have hb1 : hi.toBitVec.getLsbD t = true ∧ ¬ t + 64 < e := by
        simp only [Bool.and_eq_true, Bool.not_eq_true', decide_eq_false_iff_not] at hb
        exact hb
      have hpol := pol_of (x := hi &&& (bel (nI e - 64) ^^^ -1)) ht (by rw [b1 t ht]; exact hb) hl
      refine Or.inr ⟨t + 64, by omega, by omega, ?_, ?_, ?_⟩
      · unfold tb
        rw [if_neg (by omega), Nat.add_sub_cancel]
        exact hb1.1
      · intro k h2 h3
        by_cases h4 : k < 64
        · exact z0 k h2 h4
        · have := hl (k - 64) (by omega)
          rw [b1 _ (by omega)] at this
          unfold tb
          rw [if_neg h4]
          have h5 : ¬ k - 64 + 64 < e := by omega
          simpa [h5] using this
      · rw [hpol, i64, nI_add, Nat.add_comm]
  · rw [if_neg h0]
    obtain ⟨t, ht, hb, hl⟩ := w_least h0
    have hpol := pol_of ht hb hl
    rw [b0 t ht] at hb
    have hb1 : lo.toBitVec.getLsbD t = true ∧ ¬ t < e := by
      simp only [Bool.and_eq_true, Bool.not_eq_true', decide_eq_false_iff_not] at hb
      exact hb
    refine Or.inr ⟨t, by omega, by omega, ?_, ?_, hpol⟩
    · unfold tb
      rw [if_pos ht]
      exact hb1.1
    · intro k h2 h3
      have := hl k h3
      rw [b0 k (by omega)] at this
      unfold tb
      rw [if_pos (by omega)]
      have h5 : ¬ k < e := by omega
      simpa [h5] using this
/-- what greatestTo finds below n -/
theorem grt_spec (lo hi : Int64) : ∀ n, n ≤ 128 → (grt lo hi n = -1 ∧ ∀ k, k < n → tb lo hi k = false) ∨ ∃ j, j < n ∧ tb lo hi j = true ∧ (∀ k, j < k → k < n → tb lo hi k = false) ∧ grt lo hi n = nI j := by
  intro n
  induction n with
  | zero => exact fun _ => Or.inl ⟨rfl, fun k hk => absurd hk (Nat.not_lt_zero k)⟩
  | succ n ih =>
    intro hn
    have e := hld_tb (lo := lo) (hi := hi) (k := n) (by omega)
    by_cases h : tb lo hi n = true
    · refine Or.inr ⟨n, by omega, h, fun k h1 h2 => by omega, ?_⟩
      show (if hld lo hi (nI n) = true then nI n else grt lo hi n) = nI n
      rw [e, if_pos h]
    · have h0 : tb lo hi n = false := by simpa using h
      have e2 : grt lo hi (n + 1) = grt lo hi n := by
        show (if hld lo hi (nI n) = true then nI n else grt lo hi n) = grt lo hi n
        rw [e, if_neg h]
      rcases ih (by omega) with ⟨h1, h2⟩ | ⟨j, h1, h2, h3, h4⟩
      · exact Or.inl ⟨by rw [e2]; exact h1, fun k hk => by
          by_cases hkn : k = n
          · rw [hkn]; exact h0
          · exact h2 k (by omega)⟩
      · exact Or.inr ⟨j, by omega, h2, fun k hk1 hk2 => by
          by_cases hkn : k = n
          · rw [hkn]; exact h0
          · exact h3 k hk1 (by omega), by rw [e2]; exact h4⟩
end ZZU
