section ZZM1
variable {MB : Nat → Nat → Bool} {MI : Nat → Nat → Int32} {n : Nat} {mt : Int32} {T : zz_St}
def isR (v : Int32) : Bool := decide (0 ≤ v) && decide (v ≤ 3)
def isE (n : Nat) (v : Int32) : Bool := decide (0 ≤ v) && decide (v ≤ nI n - 1)
def isG (n : Nat) (a b : Int32) : Bool := decide (0 ≤ a) && (decide (a ≤ b) && decide (b ≤ nI n))
theorem nn0 {v : Int32} : 0 ≤ v ↔ ¬ v < 0 := Int32.not_lt.symm
theorem isR_n : ∀ r, r < 4 → isR (nI r) = true := by decide
theorem isR_of {v : Int32} (h : isR v = true) : ∃ r, r < 4 ∧ v = nI r := by
  unfold isR at h
  rw [Bool.and_eq_true, decide_eq_true_iff, decide_eq_true_iff, nn0] at h
  rcases pk_ix v (n := 4) (by omega) with h1 | h1 | h1
  · exact absurd h1 h.1
  · exact absurd (Int32.le_trans h1 h.2) (by decide)
  · exact h1
theorem isE_of {n : Nat} {v : Int32} (h1 : 1 ≤ n) (hn : n ≤ 80) (h : isE n v = true) : ∃ j, j < n ∧ v = nI j := by
  unfold isE at h
  rw [Bool.and_eq_true, decide_eq_true_iff, decide_eq_true_iff, nn0, show nI n - 1 = nI (n - 1) from pk_sub h1] at h
  rcases pk_ix v (n := n) (by omega) with h2 | h2 | h2
  · exact absurd h2 h.1
  · exact absurd (Int32.le_trans h2 h.2) (nI_ge (by omega) (by omega))
  · exact h2
theorem isE_n {n j : Nat} (hn : n ≤ 80) (h : j < n) : isE n (nI j) = true := by
  unfold isE
  rw [Bool.and_eq_true, decide_eq_true_iff, decide_eq_true_iff, nn0, show nI n - 1 = nI (n - 1) from pk_sub (b := 1) (show 1 ≤ n by omega)]
  exact ⟨nI_pos (by omega), nI_le (by omega) (by omega)⟩
theorem isG_of {n : Nat} {a b : Int32} (hn : n ≤ 80) (h : isG n a b = true) : ∃ i j, i ≤ j ∧ j ≤ n ∧ a = nI i ∧ b = nI j := by
  unfold isG at h
  rw [Bool.and_eq_true, Bool.and_eq_true, decide_eq_true_iff, decide_eq_true_iff, decide_eq_true_iff, nn0] at h
  obtain ⟨j, hj, rfl⟩ := nI_of2 (n := n) (M := nI n) (nI_toInt (by omega)) (show ¬ b < 0 from fun hb => h.1 (Int32.lt_of_le_of_lt h.2.1 hb)) h.2.2
  obtain ⟨i, hi, rfl⟩ := nI_of2 (n := n) (M := nI n) (nI_toInt (by omega)) h.1 (Int32.le_trans h.2.1 h.2.2)
  exact ⟨i, j, (nI_leI (by omega) (by omega)).mp h.2.1, hj, rfl, rfl⟩
theorem isG_n {n i j : Nat} (hn : n ≤ 80) (h : i ≤ j) (hj : j ≤ n) : isG n (nI i) (nI j) = true := by
  unfold isG
  rw [Bool.and_eq_true, Bool.and_eq_true, decide_eq_true_iff, decide_eq_true_iff, decide_eq_true_iff, nn0]
  exact ⟨nI_pos (by omega), nI_le h (by omega), nI_le hj (by omega)⟩
theorem Int32_nle {a b : Int32} : ¬ a ≤ b ↔ b < a := Int32.not_le
def bn (b : Bool) : Nat := if b = true then 1 else 0
theorem cnt_s (f : Nat → Bool) (k : Nat) : nI (cnt f (k + 1)) = nI (cnt f k) + zB (f k) := by
  show nI (if f k = true then cnt f k + 1 else cnt f k) = _
  cases f k
  · exact (Int32.add_zero _).symm
  · exact (nI_1 _).symm
/-- the sum of g below n -/
def sm (g : Nat → Nat) : Nat → Nat
  | 0 => 0
  | k + 1 => sm g k + g k
set_option maxHeartbeats 1000000 in
set_option maxRecDepth 20000 in
theorem m_thrown  : zz_Dt mX5_thrown 0 0 0 [.ref 54] (pm MB MI (nI n) mt T) (.inl (some (.int mt))) (pm MB MI (nI n) mt T) := by
  refine zz_start wPX5_thrown rfl rfl (Nat.le_of_ble_eq_true rfl) ?_
  refine zz_aload_n dX5_thrown_0 rfl ?_
  refine zz_get (ci := 5) (j := 3) zz_inX5 rfl zw_f_X5_48 rfl (by decide) dX5_thrown_1 (by omega) pm_o rfl ?_
  refine zz_iret dX5_thrown_4 rfl ?_
  exact ⟨rfl, rfl⟩
set_option maxHeartbeats 1000000 in
set_option maxRecDepth 20000 in
theorem m_in {σ : zz_St} (v a b : Int32) : zz_Dt mX5_in 0 0 0 [.int v, .int a, .int b] (σ) (.inl (some (.int (zB (decide (a ≤ v) && decide (v ≤ b)))))) (σ) := by
  refine zz_start wPX5_in rfl rfl (Nat.le_of_ble_eq_true rfl) ?_
  refine zz_iload_n dX5_in_0 rfl ?_
  refine zz_iload_n dX5_in_1 rfl ?_
  refine zz_icmp_lt (tgt := 14) dX5_in_2 (by decide) (fun h2 => ?_) (fun h2 => ?_)
  · refine zz_iconst (v := 0) dX5_in_14 (by decide) ?_
    refine zz_zret dX5_in_15 rfl (by first | rfl | exact zB_nar _) ?_
    refine ⟨?_, rfl⟩
    first | (rw [decide_eq_false (Int32.not_le.mpr h2)]; rfl) | (rw [decide_eq_false (Int32.not_le.mpr h7), Bool.and_false]; rfl) | (rw [decide_eq_true (Int32.not_lt.mp h2), decide_eq_true (Int32.not_lt.mp h7)]; rfl)
  · refine zz_iload_n dX5_in_5 rfl ?_
    refine zz_iload_n dX5_in_6 rfl ?_
    refine zz_icmp_gt (tgt := 14) dX5_in_7 (by decide) (fun h7 => ?_) (fun h7 => ?_)
    · refine zz_iconst (v := 0) dX5_in_14 (by decide) ?_
      refine zz_zret dX5_in_15 rfl (by first | rfl | exact zB_nar _) ?_
      refine ⟨?_, rfl⟩
      first | (rw [decide_eq_false (Int32.not_le.mpr h2)]; rfl) | (rw [decide_eq_false (Int32.not_le.mpr h7), Bool.and_false]; rfl) | (rw [decide_eq_true (Int32.not_lt.mp h2), decide_eq_true (Int32.not_lt.mp h7)]; rfl)
    · refine zz_iconst (v := 1) dX5_in_10 (by decide) ?_
      refine zz_goto (tgt := 15) dX5_in_11 (by decide) ?_
      refine zz_zret dX5_in_15 rfl (by first | rfl | exact zB_nar _) ?_
      refine ⟨?_, rfl⟩
      first | (rw [decide_eq_false (Int32.not_le.mpr h2)]; rfl) | (rw [decide_eq_false (Int32.not_le.mpr h7), Bool.and_false]; rfl) | (rw [decide_eq_true (Int32.not_lt.mp h2), decide_eq_true (Int32.not_lt.mp h7)]; rfl)
set_option maxHeartbeats 1000000 in
set_option maxRecDepth 20000 in
theorem m_isR {σ : zz_St} (v : Int32) : zz_Dt mX5_isRelation 1 0 0 [.int v] (σ) (.inl (some (.int (zB (isR v))))) (σ) := by
  refine zz_start wPX5_isRelation rfl rfl (Nat.le_of_ble_eq_true rfl) ?_
  refine zz_iload_n dX5_isRelation_0 rfl ?_
  refine zz_iconst (v := 0) dX5_isRelation_1 (by decide) ?_
  refine zz_iconst (v := 3) dX5_isRelation_2 (by decide) ?_
  refine zz_callS1 (m_in v 0 3) dX5_isRelation_3 zw_m_X5_51 wYX5_in wDX5_in rfl (Nat.le_of_ble_eq_true rfl) (by decide) rfl ?_
  refine zz_zret dX5_isRelation_6 rfl (by first | rfl | exact zB_nar _) ?_
  exact ⟨rfl, rfl⟩
set_option maxHeartbeats 1000000 in
set_option maxRecDepth 20000 in
theorem m_isE (v : Int32) : zz_Dt mX5_isElement 1 0 0 [.ref 54, .int v] (pm MB MI (nI n) mt T) (.inl (some (.int (zB (isE n v))))) (pm MB MI (nI n) mt T) := by
  refine zz_start wPX5_isElement rfl rfl (Nat.le_of_ble_eq_true rfl) ?_
  refine zz_iload_n dX5_isElement_0 rfl ?_
  refine zz_iconst (v := 0) dX5_isElement_1 (by decide) ?_
  refine zz_aload_n dX5_isElement_2 rfl ?_
  refine zz_get (ci := 5) (j := 2) zz_inX5 rfl zw_f_X5_16 rfl (by decide) dX5_isElement_3 (by omega) pm_o rfl ?_
  refine zz_iconst (v := 1) dX5_isElement_6 (by decide) ?_
  refine zz_isub dX5_isElement_7 ?_
  refine zz_callS1 (m_in v 0 (nI n - 1)) dX5_isElement_8 zw_m_X5_51 wYX5_in wDX5_in rfl (Nat.le_of_ble_eq_true rfl) (by decide) rfl ?_
  refine zz_zret dX5_isElement_11 rfl (by first | rfl | exact zB_nar _) ?_
  exact ⟨rfl, rfl⟩
set_option maxHeartbeats 1000000 in
set_option maxRecDepth 20000 in
theorem m_isRow (v w : Int32) : zz_Dt mX5_isRow 2 0 0 [.ref 54, .int v, .int w] (pm MB MI (nI n) mt T) (.inl (some (.int (zB (isR v && isE n w))))) (pm MB MI (nI n) mt T) := by
  refine zz_start wPX5_isRow rfl rfl (Nat.le_of_ble_eq_true rfl) ?_
  refine zz_iload_n dX5_isRow_0 rfl ?_
  refine zz_callS1 (m_isR v) dX5_isRow_1 zw_m_X5_55 wYX5_isRelation wDX5_isRelation rfl (Nat.le_of_ble_eq_true rfl) (by decide) rfl ?_
  refine zz_if_eq (tgt := 19) dX5_isRow_4 (by decide) (fun h4 => ?_) (fun h4 => ?_)
  · refine zz_iconst (v := 0) dX5_isRow_19 (by decide) ?_
    refine zz_zret dX5_isRow_20 rfl (by first | rfl | exact zB_nar _) ?_
    refine ⟨?_, rfl⟩
    simp_all [zB_0, zB_n, zB]
  · refine zz_aload_n dX5_isRow_7 rfl ?_
    refine zz_iload_n dX5_isRow_8 rfl ?_
    refine zz_callV1 (ci := 5) (m_isE w) dX5_isRow_9 zw_m_X5_59 wYX5_isElement wDX5_isElement rfl (by omega) pm_o rfl (Nat.le_of_ble_eq_true rfl) (by decide) rfl ?_
    refine zz_if_eq (tgt := 19) dX5_isRow_12 (by decide) (fun h12 => ?_) (fun h12 => ?_)
    · refine zz_iconst (v := 0) dX5_isRow_19 (by decide) ?_
      refine zz_zret dX5_isRow_20 rfl (by first | rfl | exact zB_nar _) ?_
      refine ⟨?_, rfl⟩
      simp_all [zB_0, zB_n, zB]
    · refine zz_iconst (v := 1) dX5_isRow_15 (by decide) ?_
      refine zz_goto (tgt := 20) dX5_isRow_16 (by decide) ?_
      refine zz_zret dX5_isRow_20 rfl (by first | rfl | exact zB_nar _) ?_
      refine ⟨?_, rfl⟩
      simp_all [zB_0, zB_n, zB]
set_option maxHeartbeats 1000000 in
set_option maxRecDepth 20000 in
theorem m_isG (v w : Int32) : zz_Dt mX5_isRange 0 0 0 [.ref 54, .int v, .int w] (pm MB MI (nI n) mt T) (.inl (some (.int (zB (isG n v w))))) (pm MB MI (nI n) mt T) := by
  refine zz_start wPX5_isRange rfl rfl (Nat.le_of_ble_eq_true rfl) ?_
  refine zz_iload_n dX5_isRange_0 rfl ?_
  refine zz_if_lt (tgt := 21) dX5_isRange_1 (by decide) (fun h1 => ?_) (fun h1 => ?_)
  · refine zz_iconst (v := 0) dX5_isRange_21 (by decide) ?_
    refine zz_zret dX5_isRange_22 rfl (by first | rfl | exact zB_nar _) ?_
    refine ⟨?_, rfl⟩
    unfold isG
    first | (rw [decide_eq_false (Int32.not_le.mpr h1)]; rfl) | (rw [decide_eq_false (Int32.not_le.mpr h6), Bool.false_and, Bool.and_false]; rfl) | (rw [decide_eq_false (Int32.not_le.mpr h14), Bool.and_false, Bool.and_false]; rfl) | (rw [decide_eq_true (Int32.not_lt.mp h1), decide_eq_true (Int32.not_lt.mp h6), decide_eq_true (Int32.not_lt.mp h14)]; rfl)
  · refine zz_iload_n dX5_isRange_4 rfl ?_
    refine zz_iload_n dX5_isRange_5 rfl ?_
    refine zz_icmp_gt (tgt := 21) dX5_isRange_6 (by decide) (fun h6 => ?_) (fun h6 => ?_)
    · refine zz_iconst (v := 0) dX5_isRange_21 (by decide) ?_
      refine zz_zret dX5_isRange_22 rfl (by first | rfl | exact zB_nar _) ?_
      refine ⟨?_, rfl⟩
      unfold isG
      first | (rw [decide_eq_false (Int32.not_le.mpr h1)]; rfl) | (rw [decide_eq_false (Int32.not_le.mpr h6), Bool.false_and, Bool.and_false]; rfl) | (rw [decide_eq_false (Int32.not_le.mpr h14), Bool.and_false, Bool.and_false]; rfl) | (rw [decide_eq_true (Int32.not_lt.mp h1), decide_eq_true (Int32.not_lt.mp h6), decide_eq_true (Int32.not_lt.mp h14)]; rfl)
    · refine zz_iload_n dX5_isRange_9 rfl ?_
      refine zz_aload_n dX5_isRange_10 rfl ?_
      refine zz_get (ci := 5) (j := 2) zz_inX5 rfl zw_f_X5_16 rfl (by decide) dX5_isRange_11 (by omega) pm_o rfl ?_
      refine zz_icmp_gt (tgt := 21) dX5_isRange_14 (by decide) (fun h14 => ?_) (fun h14 => ?_)
      · refine zz_iconst (v := 0) dX5_isRange_21 (by decide) ?_
        refine zz_zret dX5_isRange_22 rfl (by first | rfl | exact zB_nar _) ?_
        refine ⟨?_, rfl⟩
        unfold isG
        first | (rw [decide_eq_false (Int32.not_le.mpr h1)]; rfl) | (rw [decide_eq_false (Int32.not_le.mpr h6), Bool.false_and, Bool.and_false]; rfl) | (rw [decide_eq_false (Int32.not_le.mpr h14), Bool.and_false, Bool.and_false]; rfl) | (rw [decide_eq_true (Int32.not_lt.mp h1), decide_eq_true (Int32.not_lt.mp h6), decide_eq_true (Int32.not_lt.mp h14)]; rfl)
      · refine zz_iconst (v := 1) dX5_isRange_17 (by decide) ?_
        refine zz_goto (tgt := 22) dX5_isRange_18 (by decide) ?_
        refine zz_zret dX5_isRange_22 rfl (by first | rfl | exact zB_nar _) ?_
        refine ⟨?_, rfl⟩
        unfold isG
        first | (rw [decide_eq_false (Int32.not_le.mpr h1)]; rfl) | (rw [decide_eq_false (Int32.not_le.mpr h6), Bool.false_and, Bool.and_false]; rfl) | (rw [decide_eq_false (Int32.not_le.mpr h14), Bool.and_false, Bool.and_false]; rfl) | (rw [decide_eq_true (Int32.not_lt.mp h1), decide_eq_true (Int32.not_lt.mp h6), decide_eq_true (Int32.not_lt.mp h14)]; rfl)
set_option maxHeartbeats 1000000 in
set_option maxRecDepth 20000 in
theorem m_refuse (v : Int32) : zz_Dt mX5_refuse 0 0 0 [.ref 54, .int v] (pm MB MI (nI n) mt T) (.inl (some (.int 0))) (pm MB MI (nI n) v T) := by
  refine zz_start wPX5_refuse rfl rfl (Nat.le_of_ble_eq_true rfl) ?_
  refine zz_aload_n dX5_refuse_0 rfl ?_
  refine zz_iload_n dX5_refuse_1 rfl ?_
  refine zp_mt zw_f_X5_48 dX5_refuse_2 ?_
  refine zz_iconst (v := 0) dX5_refuse_5 (by decide) ?_
  refine zz_iret dX5_refuse_6 rfl ?_
  exact ⟨rfl, rfl⟩
set_option maxHeartbeats 1000000 in
set_option maxRecDepth 20000 in
theorem m_denies (v : Int32) : zz_Dt mX5_denies 0 0 0 [.ref 54, .int v] (pm MB MI (nI n) mt T) (.inl (some (.int (zB false)))) (pm MB MI (nI n) v T) := by
  refine zz_start wPX5_denies rfl rfl (Nat.le_of_ble_eq_true rfl) ?_
  refine zz_aload_n dX5_denies_0 rfl ?_
  refine zz_iload_n dX5_denies_1 rfl ?_
  refine zp_mt zw_f_X5_48 dX5_denies_2 ?_
  refine zz_iconst (v := 0) dX5_denies_5 (by decide) ?_
  refine zz_zret dX5_denies_6 rfl (by first | rfl | exact zB_nar _) ?_
  exact ⟨rfl, rfl⟩
set_option maxHeartbeats 1000000 in
set_option maxRecDepth 20000 in
theorem m_told (v : Int32) : zz_Dt mX5_told 0 0 0 [.ref 54, .int v] (pm MB MI (nI n) mt T) (.inl (some (.int v))) (pm MB MI (nI n) 0 T) := by
  refine zz_start wPX5_told rfl rfl (Nat.le_of_ble_eq_true rfl) ?_
  refine zz_aload_n dX5_told_0 rfl ?_
  refine zz_iconst (v := 0) dX5_told_1 (by decide) ?_
  refine zp_mt zw_f_X5_48 dX5_told_2 ?_
  refine zz_iload_n dX5_told_5 rfl ?_
  refine zz_iret dX5_told_6 rfl ?_
  exact ⟨rfl, rfl⟩
set_option maxHeartbeats 1000000 in
set_option maxRecDepth 20000 in
theorem m_says (b : Bool) : zz_Dt mX5_says 0 0 0 [.ref 54, .int (zB b)] (pm MB MI (nI n) mt T) (.inl (some (.int (zB b)))) (pm MB MI (nI n) 0 T) := by
  refine zz_start wPX5_says rfl rfl (Nat.le_of_ble_eq_true rfl) ?_
  refine zz_aload_n dX5_says_0 rfl ?_
  refine zz_iconst (v := 0) dX5_says_1 (by decide) ?_
  refine zp_mt zw_f_X5_48 dX5_says_2 ?_
  refine zz_iload_n dX5_says_5 rfl ?_
  refine zz_zret dX5_says_6 rfl (by first | rfl | exact zB_nar _) ?_
  exact ⟨rfl, rfl⟩
set_option maxHeartbeats 1000000 in
set_option maxRecDepth 20000 in
theorem m_place {σ : zz_St} (r i k : Nat) : zz_Dt mX5_place 0 0 0 [.int (nI r), .int (nI i), .int (nI k)] (σ) (.inl (some (.int (nI (6400 * r + 80 * i + k))))) (σ) := by
  refine zz_start wPX5_place rfl rfl (Nat.le_of_ble_eq_true rfl) ?_
  refine zz_sipush (v := 6400) dX5_place_0 (by decide) ?_
  refine zz_iload_n dX5_place_3 rfl ?_
  refine zz_imul dX5_place_4 ?_
  refine zz_bipush (v := 80) dX5_place_5 (by decide) ?_
  refine zz_iload_n dX5_place_7 rfl ?_
  refine zz_imul dX5_place_8 ?_
  refine zz_iadd dX5_place_9 ?_
  refine zz_iload_n dX5_place_10 rfl ?_
  refine zz_iadd dX5_place_11 ?_
  refine zz_iret dX5_place_12 rfl ?_
  exact ⟨by rw [i6400, i80, pk_mul, pk_mul, nI_add, nI_add], rfl⟩
set_option maxHeartbeats 1000000 in
set_option maxRecDepth 20000 in
theorem m_leads {r i k : Nat} (hr : r < 4) (hi : i < 80) (hk : k < 80) : zz_Dt mX5_leads 1 0 0 [.ref 54, .int (nI r), .int (nI i), .int (nI k)] (pm MB MI (nI n) mt T) (.inl (some (.int (zB (MB 55 (6400 * r + 80 * i + k)))))) (pm MB MI (nI n) mt T) := by
  refine zz_start wPX5_leads rfl rfl (Nat.le_of_ble_eq_true rfl) ?_
  refine zz_aload_n dX5_leads_0 rfl ?_
  refine zz_get (ci := 5) (j := 0) zz_inX5 rfl zw_f_X5_7 rfl (by decide) dX5_leads_1 (by omega) pm_o rfl ?_
  refine zz_iload_n dX5_leads_4 rfl ?_
  refine zz_iload_n dX5_leads_5 rfl ?_
  refine zz_iload_n dX5_leads_6 rfl ?_
  refine zz_callS1 (m_place r i k) dX5_leads_7 zw_m_X5_62 wYX5_place wDX5_place rfl (Nat.le_of_ble_eq_true rfl) (by decide) rfl ?_
  refine zl_mb dX5_leads_10 (by omega) (by rw [ml55]; omega) (by rw [ml55]; omega) ?_
  refine zz_zret dX5_leads_11 rfl (by first | rfl | exact zB_nar _) ?_
  exact ⟨rfl, rfl⟩
set_option maxHeartbeats 1000000 in
set_option maxRecDepth 20000 in
theorem ml_inRow {r j : Nat} (hr : r < 4) (hj : j < 80) (hn : n ≤ 80) : ∀ (m i : Nat), i + m = n → zz_E mX5_inRow none 2 0 0 (fun o τ => o = .inl (some (.int (nI (cnt (fun k => MB 55 (6400 * r + 80 * j + k)) n)))) ∧ τ = pm MB MI (nI n) mt T) 5 [(4, .int (nI i)), (3, .int (nI (cnt (fun k => MB 55 (6400 * r + 80 * j + k)) i))), (0, .ref 54), (1, .int (nI r)), (2, .int (nI j))] [] (pm MB MI (nI n) mt T) := by
  intro m
  induction m with
  | zero =>
    intro i hi
    have hi : i = n := by omega
    subst hi
    refine zz_iload dX5_inRow_5 rfl ?_
    refine zz_aload_n dX5_inRow_7 rfl ?_
    refine zz_get (ci := 5) (j := 2) zz_inX5 rfl zw_f_X5_16 rfl (by decide) dX5_inRow_8 (by omega) pm_o rfl ?_
    refine zz_icmp_ge (tgt := 39) dX5_inRow_11 (by decide) (fun _ => ?_) (fun h => absurd (nI_le (by omega) (by omega)) h)
    refine zz_iload_n dX5_inRow_39 rfl ?_
    refine zz_iret dX5_inRow_40 rfl ?_
    exact ⟨rfl, rfl⟩
  | succ m ih =>
    intro i hi
    refine zz_iload dX5_inRow_5 rfl ?_
    refine zz_aload_n dX5_inRow_7 rfl ?_
    refine zz_get (ci := 5) (j := 2) zz_inX5 rfl zw_f_X5_16 rfl (by decide) dX5_inRow_8 (by omega) pm_o rfl ?_
    refine zz_icmp_ge (tgt := 39) dX5_inRow_11 (by decide) (fun h => absurd h (nI_ge (by omega) (by omega))) (fun _ => ?_)
    refine zz_iload_n dX5_inRow_14 rfl ?_
    refine zz_aload_n dX5_inRow_15 rfl ?_
    refine zz_iload_n dX5_inRow_16 rfl ?_
    refine zz_iload_n dX5_inRow_17 rfl ?_
    refine zz_iload dX5_inRow_18 rfl ?_
    refine zz_callV1 (ci := 5) (m_leads hr hj (show i < 80 by omega)) dX5_inRow_20 zw_m_X5_66 wYX5_leads wDX5_leads rfl (by omega) pm_o rfl (Nat.le_of_ble_eq_true rfl) (by decide) rfl ?_
    refine zz_if_eq (tgt := 30) dX5_inRow_23 (by decide) (fun h23 => ?_) (fun h23 => ?_)
    · refine zz_iconst (v := 0) dX5_inRow_30 (by decide) ?_
      refine zz_iadd dX5_inRow_31 ?_
      refine zz_istore_n dX5_inRow_32 (by decide) ?_
      refine zz_iinc (v := nI (i + 1)) dX5_inRow_33 rfl (nI_1 i) (by decide) ?_
      refine zz_goto (tgt := 5) dX5_inRow_36 (by decide) ?_
      have h9 := ih (i + 1) (by omega)
      rw [cnt_s] at h9
      first | (rw [zB_0.mp h23] at h9; exact h9) | (rw [zB_n.mp h23] at h9; exact h9)
    · refine zz_iconst (v := 1) dX5_inRow_26 (by decide) ?_
      refine zz_goto (tgt := 31) dX5_inRow_27 (by decide) ?_
      refine zz_iadd dX5_inRow_31 ?_
      refine zz_istore_n dX5_inRow_32 (by decide) ?_
      refine zz_iinc (v := nI (i + 1)) dX5_inRow_33 rfl (nI_1 i) (by decide) ?_
      refine zz_goto (tgt := 5) dX5_inRow_36 (by decide) ?_
      have h9 := ih (i + 1) (by omega)
      rw [cnt_s] at h9
      first | (rw [zB_0.mp h23] at h9; exact h9) | (rw [zB_n.mp h23] at h9; exact h9)
set_option maxHeartbeats 1000000 in
set_option maxRecDepth 20000 in
theorem m_inRow {r j : Nat} (hr : r < 4) (hj : j < 80) (hn : n ≤ 80) : zz_Dt mX5_inRow 2 0 0 [.ref 54, .int (nI r), .int (nI j)] (pm MB MI (nI n) mt T) (.inl (some (.int (nI (cnt (fun k => MB 55 (6400 * r + 80 * j + k)) n))))) (pm MB MI (nI n) mt T) := by
  refine zz_start wPX5_inRow rfl rfl (Nat.le_of_ble_eq_true rfl) ?_
  refine zz_iconst (v := 0) dX5_inRow_0 (by decide) ?_
  refine zz_istore_n dX5_inRow_1 (by decide) ?_
  refine zz_iconst (v := 0) dX5_inRow_2 (by decide) ?_
  refine zz_istore dX5_inRow_3 (by decide) ?_
  exact ml_inRow hr hj hn n 0 (by omega)
set_option maxHeartbeats 1000000 in
set_option maxRecDepth 20000 in
theorem ml_pairs {r : Nat} (hr : r < 4) (hn : n ≤ 80) : ∀ (m i : Nat), i + m = n → zz_E mX5_pairs none 3 0 0 (fun o τ => o = .inl (some (.int (nI (sm (fun j => cnt (fun k => MB 55 (6400 * r + 80 * j + k)) n) n)))) ∧ τ = pm MB MI (nI n) mt T) 4 [(3, .int (nI i)), (2, .int (nI (sm (fun j => cnt (fun k => MB 55 (6400 * r + 80 * j + k)) n) i))), (0, .ref 54), (1, .int (nI r))] [] (pm MB MI (nI n) mt T) := by
  intro m
  induction m with
  | zero =>
    intro i hi
    have hi : i = n := by omega
    subst hi
    refine zz_iload_n dX5_pairs_4 rfl ?_
    refine zz_aload_n dX5_pairs_5 rfl ?_
    refine zz_get (ci := 5) (j := 2) zz_inX5 rfl zw_f_X5_16 rfl (by decide) dX5_pairs_6 (by omega) pm_o rfl ?_
    refine zz_icmp_ge (tgt := 27) dX5_pairs_9 (by decide) (fun _ => ?_) (fun h => absurd (nI_le (by omega) (by omega)) h)
    refine zz_iload_n dX5_pairs_27 rfl ?_
    refine zz_iret dX5_pairs_28 rfl ?_
    exact ⟨rfl, rfl⟩
  | succ m ih =>
    intro i hi
    refine zz_iload_n dX5_pairs_4 rfl ?_
    refine zz_aload_n dX5_pairs_5 rfl ?_
    refine zz_get (ci := 5) (j := 2) zz_inX5 rfl zw_f_X5_16 rfl (by decide) dX5_pairs_6 (by omega) pm_o rfl ?_
    refine zz_icmp_ge (tgt := 27) dX5_pairs_9 (by decide) (fun h => absurd h (nI_ge (by omega) (by omega))) (fun _ => ?_)
    refine zz_iload_n dX5_pairs_12 rfl ?_
    refine zz_aload_n dX5_pairs_13 rfl ?_
    refine zz_iload_n dX5_pairs_14 rfl ?_
    refine zz_iload_n dX5_pairs_15 rfl ?_
    refine zz_callV1 (ci := 5) (m_inRow hr (show i < 80 by omega) hn) dX5_pairs_16 zw_m_X5_69 wYX5_inRow wDX5_inRow rfl (by omega) pm_o rfl (Nat.le_of_ble_eq_true rfl) (by decide) rfl ?_
    refine zz_iadd dX5_pairs_19 ?_
    refine zz_istore_n dX5_pairs_20 (by decide) ?_
    refine zz_iinc (v := nI (i + 1)) dX5_pairs_21 rfl (nI_1 i) (by decide) ?_
    refine zz_goto (tgt := 4) dX5_pairs_24 (by decide) ?_
    have h9 := ih (i + 1) (by omega)
    rw [show nI (sm (fun j => cnt (fun k => MB 55 (6400 * r + 80 * j + k)) n) (i + 1)) = nI (sm (fun j => cnt (fun k => MB 55 (6400 * r + 80 * j + k)) n) i) + nI ((fun j => cnt (fun k => MB 55 (6400 * r + 80 * j + k)) n) i) from (nI_add _ _).symm] at h9
    exact h9
set_option maxHeartbeats 1000000 in
set_option maxRecDepth 20000 in
theorem m_pairs {r : Nat} (hr : r < 4) (hn : n ≤ 80) : zz_Dt mX5_pairs 3 0 0 [.ref 54, .int (nI r)] (pm MB MI (nI n) mt T) (.inl (some (.int (nI (sm (fun j => cnt (fun k => MB 55 (6400 * r + 80 * j + k)) n) n))))) (pm MB MI (nI n) mt T) := by
  refine zz_start wPX5_pairs rfl rfl (Nat.le_of_ble_eq_true rfl) ?_
  refine zz_iconst (v := 0) dX5_pairs_0 (by decide) ?_
  refine zz_istore_n dX5_pairs_1 (by decide) ?_
  refine zz_iconst (v := 0) dX5_pairs_2 (by decide) ?_
  refine zz_istore_n dX5_pairs_3 (by decide) ?_
  exact ml_pairs hr hn n 0 (by omega)
end ZZM1
