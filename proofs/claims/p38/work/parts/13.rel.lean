section ZZ1
variable {El : Nat → Int32} {Lo Hi : Nat → Nat → Int64} {BL BH : Nat → Int64} {Od : Nat → Nat → Int32} {Ls : Nat → Int32} {nn : Int32} {T : zz_St}
def cpy {α : Type} (n : Nat) (g f : Nat → α) : Nat → α := fun k => if k < n then g k else f k
theorem cpy_0 {α : Type} (g f : Nat → α) : cpy 0 g f = f := by funext k; simp [cpy]
theorem up_self {α : Type} (f : Nat → α) (r : Nat) : va_up f r (f r) = f := by
  funext a
  by_cases h : a = r
  · subst h; simp [va_up]
  · simp [va_up, h]
theorem up_at {α : Type} (f : Nat → α) (r : Nat) (v : α) : va_up f r v r = v := by simp [va_up]
theorem up_ne {α : Type} (f : Nat → α) {r q : Nat} (v : α) (h : q ≠ r) : va_up f r v q = f q := by simp [va_up, h]
theorem up_up {α : Type} (f : Nat → α) (r : Nat) (v w : α) : va_up (va_up f r v) r w = va_up f r w := by
  funext a
  by_cases h : a = r <;> simp [va_up, h]
theorem cpy_s {α : Type} (i : Nat) (g f : Nat → α) : va_up (cpy i g f) i (g i) = cpy (i + 1) g f := by
  funext k
  unfold va_up cpy
  by_cases h : k = i
  · subst h; simp
  · by_cases h1 : k < i
    · have h2 : k < i + 1 := by omega
      simp [h, h1, h2]
    · have h2 : ¬ k < i + 1 := by omega
      simp [h, h1, h2]
theorem cpy_i {α : Type} (i : Nat) (g f : Nat → α) : cpy i g f i = f i := by simp [cpy]
/-- a row after row of r becomes g's, seen from inside -/
theorem tk_s (L : Nat → Nat → Int64) (r q i : Nat) : va_up (va_up L r (cpy i (L q) (L r))) r (va_up ((va_up L r (cpy i (L q) (L r))) r) i ((va_up L r (cpy i (L q) (L r))) q i)) = va_up L r (cpy (i + 1) (L q) (L r)) := by
  rw [up_up, up_at]
  congr 1
  by_cases h : q = r
  · subst h
    rw [up_at, ← cpy_s i (L q) (L q), cpy_i]
  · rw [up_ne _ _ h, cpy_s]
theorem cs_s (L : Nat → Nat → Int64) (r i : Nat) (g : Nat → Int64) : va_up (va_up L r (cpy i g (L r))) r (va_up ((va_up L r (cpy i g (L r))) r) i (g i)) = va_up L r (cpy (i + 1) g (L r)) := by
  rw [up_up, up_at, cpy_s]
def mxd (a b : Int64) (how : Int32) : Int64 := if how = 0 then a ||| b else if how = 1 then a &&& b else if how = 2 then a &&& (b ^^^ -1) else a ^^^ b
def szr (lo hi : Int64) : Int32 := bcn lo + bcn hi
def prs (L H : Nat → Int64) : Nat → Int32
  | 0 => 0
  | i + 1 => prs L H i + szr (L i) (H i)
def ows (L H : Nat → Int64) : Nat → Int32
  | 0 => 0
  | i + 1 => if hld (L i) (H i) (nI i) = true then ows L H i + 1 else ows L H i
set_option maxHeartbeats 1000000 in
set_option maxRecDepth 20000 in
theorem c_lowAt {r : Nat} (hr : r < 8) {j : Nat} (hj : j < 80) : zz_Dt mX1_lowAt 0 0 0 [.ref r, .int (nI j)] (px El Lo Hi BL BH Od Ls nn T) (.inl (some (.long (Lo r j)))) (px El Lo Hi BL BH Od Ls nn T) := by
  refine zz_start wPX1_lowAt rfl rfl (Nat.le_of_ble_eq_true rfl) ?_
  refine zz_iload_n dX1_lowAt_0 rfl ?_
  refine zz_if_lt (tgt := 13) dX1_lowAt_1 (by decide) (fun h => absurd h (nI_pos (by omega))) (fun _ => ?_)
  refine zz_iload_n dX1_lowAt_4 rfl ?_
  refine zz_aload_n dX1_lowAt_5 rfl ?_
  refine zg_lo zw_f_X1_15 dX1_lowAt_6 (by omega) ?_
  first | refine zz_alen1 (v := 80) dX1_lowAt_9 (by omega) (px_lo (by omega)) (by decide) ?_ | refine zz_alen1 (v := 80) dX1_lowAt_9 (by omega) (px_hi (by omega)) (by decide) ?_ | refine zz_alen0 (v := 80) dX1_lowAt_9 (by omega) (px_od (by omega)) (by decide) ?_ | refine zz_alen0 (v := 80) dX1_lowAt_9 (by omega) px_ls (by decide) ?_ | refine zz_alen3 (v := 4) dX1_lowAt_9 (by omega) px_rs (by decide) ?_
  refine zz_icmp_lt (tgt := 17) dX1_lowAt_10 (by decide) (fun _ => ?_) (fun h => absurd (nI_lt (b := 80) (by omega) (by omega)) h)
  refine zz_aload_n dX1_lowAt_17 rfl ?_
  refine zg_lo zw_f_X1_15 dX1_lowAt_18 (by omega) ?_
  refine zz_iload_n dX1_lowAt_21 rfl ?_
  first | refine zl_lo dX1_lowAt_22 (by omega) (by omega) ?_ | refine zl_hi dX1_lowAt_22 (by omega) (by omega) ?_
  refine zz_lret dX1_lowAt_23 rfl ?_
  exact ⟨rfl, rfl⟩
set_option maxHeartbeats 1000000 in
set_option maxRecDepth 20000 in
theorem c_highAt {r : Nat} (hr : r < 8) {j : Nat} (hj : j < 80) : zz_Dt mX1_highAt 0 0 0 [.ref r, .int (nI j)] (px El Lo Hi BL BH Od Ls nn T) (.inl (some (.long (Hi r j)))) (px El Lo Hi BL BH Od Ls nn T) := by
  refine zz_start wPX1_highAt rfl rfl (Nat.le_of_ble_eq_true rfl) ?_
  refine zz_iload_n dX1_highAt_0 rfl ?_
  refine zz_if_lt (tgt := 13) dX1_highAt_1 (by decide) (fun h => absurd h (nI_pos (by omega))) (fun _ => ?_)
  refine zz_iload_n dX1_highAt_4 rfl ?_
  refine zz_aload_n dX1_highAt_5 rfl ?_
  refine zg_hi zw_f_X1_19 dX1_highAt_6 (by omega) ?_
  first | refine zz_alen1 (v := 80) dX1_highAt_9 (by omega) (px_lo (by omega)) (by decide) ?_ | refine zz_alen1 (v := 80) dX1_highAt_9 (by omega) (px_hi (by omega)) (by decide) ?_ | refine zz_alen0 (v := 80) dX1_highAt_9 (by omega) (px_od (by omega)) (by decide) ?_ | refine zz_alen0 (v := 80) dX1_highAt_9 (by omega) px_ls (by decide) ?_ | refine zz_alen3 (v := 4) dX1_highAt_9 (by omega) px_rs (by decide) ?_
  refine zz_icmp_lt (tgt := 17) dX1_highAt_10 (by decide) (fun _ => ?_) (fun h => absurd (nI_lt (b := 80) (by omega) (by omega)) h)
  refine zz_aload_n dX1_highAt_17 rfl ?_
  refine zg_hi zw_f_X1_19 dX1_highAt_18 (by omega) ?_
  refine zz_iload_n dX1_highAt_21 rfl ?_
  first | refine zl_lo dX1_highAt_22 (by omega) (by omega) ?_ | refine zl_hi dX1_highAt_22 (by omega) (by omega) ?_
  refine zz_lret dX1_highAt_23 rfl ?_
  exact ⟨rfl, rfl⟩
set_option maxHeartbeats 1000000 in
set_option maxRecDepth 20000 in
theorem c_putWords {r : Nat} (hr : r < 8) {j : Nat} (hj : j < 80) (x y : Int64) : zz_Dt mX1_putWords 0 0 0 [.ref r, .int (nI j), .long x, .long y] (px El Lo Hi BL BH Od Ls nn T) (.inl none) (px El (va_up Lo r (va_up (Lo r) j x)) (va_up Hi r (va_up (Hi r) j y)) BL BH Od Ls nn T) := by
  refine zz_start wPX1_putWords rfl rfl (Nat.le_of_ble_eq_true rfl) ?_
  refine zz_iload_n dX1_putWords_0 rfl ?_
  refine zz_if_lt (tgt := 37) dX1_putWords_1 (by decide) (fun h => absurd h (nI_pos (by omega))) (fun _ => ?_)
  refine zz_iload_n dX1_putWords_4 rfl ?_
  refine zz_aload_n dX1_putWords_5 rfl ?_
  refine zg_lo zw_f_X1_15 dX1_putWords_6 (by omega) ?_
  first | refine zz_alen1 (v := 80) dX1_putWords_9 (by omega) (px_lo (by omega)) (by decide) ?_ | refine zz_alen1 (v := 80) dX1_putWords_9 (by omega) (px_hi (by omega)) (by decide) ?_ | refine zz_alen0 (v := 80) dX1_putWords_9 (by omega) (px_od (by omega)) (by decide) ?_ | refine zz_alen0 (v := 80) dX1_putWords_9 (by omega) px_ls (by decide) ?_ | refine zz_alen3 (v := 4) dX1_putWords_9 (by omega) px_rs (by decide) ?_
  refine zz_icmp_ge (tgt := 37) dX1_putWords_10 (by decide) (fun h => absurd h (nI_ge (b := 80) (by omega) (by omega))) (fun _ => ?_)
  refine zz_iload_n dX1_putWords_13 rfl ?_
  refine zz_aload_n dX1_putWords_14 rfl ?_
  refine zg_hi zw_f_X1_19 dX1_putWords_15 (by omega) ?_
  first | refine zz_alen1 (v := 80) dX1_putWords_18 (by omega) (px_lo (by omega)) (by decide) ?_ | refine zz_alen1 (v := 80) dX1_putWords_18 (by omega) (px_hi (by omega)) (by decide) ?_ | refine zz_alen0 (v := 80) dX1_putWords_18 (by omega) (px_od (by omega)) (by decide) ?_ | refine zz_alen0 (v := 80) dX1_putWords_18 (by omega) px_ls (by decide) ?_ | refine zz_alen3 (v := 4) dX1_putWords_18 (by omega) px_rs (by decide) ?_
  refine zz_icmp_ge (tgt := 37) dX1_putWords_19 (by decide) (fun h => absurd h (nI_ge (b := 80) (by omega) (by omega))) (fun _ => ?_)
  refine zz_aload_n dX1_putWords_22 rfl ?_
  refine zg_lo zw_f_X1_15 dX1_putWords_23 (by omega) ?_
  refine zz_iload_n dX1_putWords_26 rfl ?_
  refine zz_lload_n dX1_putWords_27 rfl ?_
  first | refine zs_lo dX1_putWords_28 (by omega) (by omega) ?_ | refine zs_hi dX1_putWords_28 (by omega) (by omega) ?_
  refine zz_aload_n dX1_putWords_29 rfl ?_
  refine zg_hi zw_f_X1_19 dX1_putWords_30 (by omega) ?_
  refine zz_iload_n dX1_putWords_33 rfl ?_
  refine zz_lload dX1_putWords_34 rfl ?_
  first | refine zs_lo dX1_putWords_36 (by omega) (by omega) ?_ | refine zs_hi dX1_putWords_36 (by omega) (by omega) ?_
  refine zz_vret dX1_putWords_37 rfl ?_
  exact ⟨rfl, rfl⟩
set_option maxHeartbeats 1000000 in
set_option maxRecDepth 20000 in
theorem c_rowInto {r : Nat} (hr : r < 8) {j : Nat} (hj : j < 80) {p : Nat} (hp : 24 ≤ p ∧ p < 46) : zz_Dt mX1_rowInto 1 0 0 [.ref r, .int (nI j), .ref p] (px El Lo Hi BL BH Od Ls nn T) (.inl none) (px El Lo Hi (va_up BL p (Lo r j)) (va_up BH p (Hi r j)) Od Ls nn T) := by
  refine zz_start wPX1_rowInto rfl rfl (Nat.le_of_ble_eq_true rfl) ?_
  refine zz_aload_n dX1_rowInto_0 rfl ?_
  refine zz_aload_n dX1_rowInto_1 rfl ?_
  refine zz_iload_n dX1_rowInto_2 rfl ?_
  refine zz_callV1 (ci := 1) (c_lowAt hr hj) dX1_rowInto_3 zw_m_X1_36 wYX1_lowAt wDX1_lowAt rfl (by omega) (px_rel (by omega)) rfl (Nat.le_of_ble_eq_true rfl) (by decide) rfl ?_
  refine zp_bl zw_f_X1_40 dX1_rowInto_6 (by omega) ?_
  refine zz_aload_n dX1_rowInto_9 rfl ?_
  refine zz_aload_n dX1_rowInto_10 rfl ?_
  refine zz_iload_n dX1_rowInto_11 rfl ?_
  refine zz_callV1 (ci := 1) (c_highAt hr hj) dX1_rowInto_12 zw_m_X1_43 wYX1_highAt wDX1_highAt rfl (by omega) (px_rel (by omega)) rfl (Nat.le_of_ble_eq_true rfl) (by decide) rfl ?_
  refine zp_bh zw_f_X1_46 dX1_rowInto_15 (by omega) ?_
  refine zz_vret dX1_rowInto_18 rfl ?_
  exact ⟨rfl, rfl⟩
set_option maxHeartbeats 1000000 in
set_option maxRecDepth 20000 in
theorem c_putRow {r : Nat} (hr : r < 8) {j : Nat} (hj : j < 80) {p : Nat} (hp : 24 ≤ p ∧ p < 46) : zz_Dt mX1_putRow 1 0 0 [.ref r, .int (nI j), .ref p] (px El Lo Hi BL BH Od Ls nn T) (.inl none) (px El (va_up Lo r (va_up (Lo r) j (BL p))) (va_up Hi r (va_up (Hi r) j (BH p))) BL BH Od Ls nn T) := by
  refine zz_start wPX1_putRow rfl rfl (Nat.le_of_ble_eq_true rfl) ?_
  refine zz_aload_n dX1_putRow_0 rfl ?_
  refine zz_iload_n dX1_putRow_1 rfl ?_
  refine zz_aload_n dX1_putRow_2 rfl ?_
  refine zg_bl zw_f_X1_40 dX1_putRow_3 (by omega) ?_
  refine zz_aload_n dX1_putRow_6 rfl ?_
  refine zg_bh zw_f_X1_46 dX1_putRow_7 (by omega) ?_
  refine zz_callV0 (ci := 1) (c_putWords hr hj _ _) dX1_putRow_10 zw_m_X1_48 wYX1_putWords wDX1_putWords rfl (by omega) (px_rel (by omega)) rfl (Nat.le_of_ble_eq_true rfl) (by decide) rfl ?_
  refine zz_vret dX1_putRow_13 rfl ?_
  exact ⟨rfl, rfl⟩
set_option maxHeartbeats 1000000 in
set_option maxRecDepth 20000 in
theorem c_rholds {r : Nat} (hr : r < 8) {j : Nat} (hj : j < 80) (e : Int32) : zz_Dt mX1_holds 1 0 0 [.ref r, .int (nI j), .int e] (px El Lo Hi BL BH Od Ls nn T) (.inl (some (.int (zB (hld (Lo r j) (Hi r j) e))))) (px El Lo Hi BL BH Od Ls nn T) := by
  refine zz_start wPX1_holds rfl rfl (Nat.le_of_ble_eq_true rfl) ?_
  refine zz_iload_n dX1_holds_0 rfl ?_
  refine zz_bipush (v := 64) dX1_holds_1 (by decide) ?_
  refine zz_icmp_ge (tgt := 16) dX1_holds_3 (by decide) (fun h3 => ?_) (fun h3 => ?_)
  · refine zz_aload_n dX1_holds_16 rfl ?_
    refine zz_iload_n dX1_holds_17 rfl ?_
    refine zz_callV1 (ci := 1) (c_highAt hr hj) dX1_holds_18 zw_m_X1_43 wYX1_highAt wDX1_highAt rfl (by omega) (px_rel (by omega)) rfl (Nat.le_of_ble_eq_true rfl) (by decide) rfl ?_
    refine zz_iload_n dX1_holds_21 rfl ?_
    refine zz_bipush (v := 64) dX1_holds_22 (by decide) ?_
    refine zz_isub dX1_holds_24 ?_
    refine zz_lushr dX1_holds_25 rfl ?_
    refine zz_lstore_n dX1_holds_26 (by decide) ?_
    refine zz_lload_n dX1_holds_27 rfl ?_
    refine zz_lconst (v := 1) dX1_holds_28 (by decide) ?_
    refine zz_land dX1_holds_29 ?_
    refine zz_lconst (v := 0) dX1_holds_30 (by decide) ?_
    refine zz_lcmp dX1_holds_31 ?_
    refine zz_if_eq (tgt := 39) dX1_holds_32 (by decide) (fun h32 => ?_) (fun h32 => ?_)
    · refine zz_iconst (v := 0) dX1_holds_39 (by decide) ?_
      refine zz_zret dX1_holds_40 rfl (by first | rfl | exact zB_nar _) ?_
      refine ⟨?_, rfl⟩
      first | (simp_all [hld, cmp_e, zB, sh64]; done) | (have h3b := Int32.not_lt.mpr h3; unfold hld; rw [if_neg h3b]; simp_all [cmp_e, zB, sh64]; done)
    · refine zz_iconst (v := 1) dX1_holds_35 (by decide) ?_
      refine zz_goto (tgt := 40) dX1_holds_36 (by decide) ?_
      refine zz_zret dX1_holds_40 rfl (by first | rfl | exact zB_nar _) ?_
      refine ⟨?_, rfl⟩
      first | (simp_all [hld, cmp_e, zB, sh64]; done) | (have h3b := Int32.not_lt.mpr h3; unfold hld; rw [if_neg h3b]; simp_all [cmp_e, zB, sh64]; done)
  · refine zz_aload_n dX1_holds_6 rfl ?_
    refine zz_iload_n dX1_holds_7 rfl ?_
    refine zz_callV1 (ci := 1) (c_lowAt hr hj) dX1_holds_8 zw_m_X1_36 wYX1_lowAt wDX1_lowAt rfl (by omega) (px_rel (by omega)) rfl (Nat.le_of_ble_eq_true rfl) (by decide) rfl ?_
    refine zz_iload_n dX1_holds_11 rfl ?_
    refine zz_lushr dX1_holds_12 rfl ?_
    refine zz_goto (tgt := 26) dX1_holds_13 (by decide) ?_
    refine zz_lstore_n dX1_holds_26 (by decide) ?_
    refine zz_lload_n dX1_holds_27 rfl ?_
    refine zz_lconst (v := 1) dX1_holds_28 (by decide) ?_
    refine zz_land dX1_holds_29 ?_
    refine zz_lconst (v := 0) dX1_holds_30 (by decide) ?_
    refine zz_lcmp dX1_holds_31 ?_
    refine zz_if_eq (tgt := 39) dX1_holds_32 (by decide) (fun h32 => ?_) (fun h32 => ?_)
    · refine zz_iconst (v := 0) dX1_holds_39 (by decide) ?_
      refine zz_zret dX1_holds_40 rfl (by first | rfl | exact zB_nar _) ?_
      refine ⟨?_, rfl⟩
      first | (simp_all [hld, cmp_e, zB, sh64]; done) | (have h3b := Int32.not_lt.mpr h3; unfold hld; rw [if_neg h3b]; simp_all [cmp_e, zB, sh64]; done)
    · refine zz_iconst (v := 1) dX1_holds_35 (by decide) ?_
      refine zz_goto (tgt := 40) dX1_holds_36 (by decide) ?_
      refine zz_zret dX1_holds_40 rfl (by first | rfl | exact zB_nar _) ?_
      refine ⟨?_, rfl⟩
      first | (simp_all [hld, cmp_e, zB, sh64]; done) | (have h3b := Int32.not_lt.mpr h3; unfold hld; rw [if_neg h3b]; simp_all [cmp_e, zB, sh64]; done)
set_option maxHeartbeats 1000000 in
set_option maxRecDepth 20000 in
theorem c_join {r : Nat} (hr : r < 8) {j : Nat} (hj : j < 80) (b : Int32) : zz_Dt mX1_join 2 0 0 [.ref r, .int (nI j), .int b] (px El Lo Hi BL BH Od Ls nn T) (.inl none) (px El (va_up Lo r (va_up (Lo r) j (Lo r j ||| lwR b (b + 1)))) (va_up Hi r (va_up (Hi r) j (Hi r j ||| hgR b (b + 1)))) BL BH Od Ls nn T) := by
  refine zz_start wPX1_join rfl rfl (Nat.le_of_ble_eq_true rfl) ?_
  refine zz_aload_n dX1_join_0 rfl ?_
  refine zz_iload_n dX1_join_1 rfl ?_
  refine zz_aload_n dX1_join_2 rfl ?_
  refine zz_iload_n dX1_join_3 rfl ?_
  refine zz_callV1 (ci := 1) (c_lowAt hr hj) dX1_join_4 zw_m_X1_36 wYX1_lowAt wDX1_lowAt rfl (by omega) (px_rel (by omega)) rfl (Nat.le_of_ble_eq_true rfl) (by decide) rfl ?_
  refine zz_iload_n dX1_join_7 rfl ?_
  refine zz_iload_n dX1_join_8 rfl ?_
  refine zz_iconst (v := 1) dX1_join_9 (by decide) ?_
  refine zz_iadd dX1_join_10 ?_
  refine zz_callS1 (c_lowRange _ _) dX1_join_11 zw_m_X1_52 wYX0_lowRange wDX0_lowRange rfl (Nat.le_of_ble_eq_true rfl) (by decide) rfl ?_
  refine zz_lor dX1_join_14 ?_
  refine zz_aload_n dX1_join_15 rfl ?_
  refine zz_iload_n dX1_join_16 rfl ?_
  refine zz_callV1 (ci := 1) (c_highAt hr hj) dX1_join_17 zw_m_X1_43 wYX1_highAt wDX1_highAt rfl (by omega) (px_rel (by omega)) rfl (Nat.le_of_ble_eq_true rfl) (by decide) rfl ?_
  refine zz_iload_n dX1_join_20 rfl ?_
  refine zz_iload_n dX1_join_21 rfl ?_
  refine zz_iconst (v := 1) dX1_join_22 (by decide) ?_
  refine zz_iadd dX1_join_23 ?_
  refine zz_callS1 (c_highRange _ _) dX1_join_24 zw_m_X1_56 wYX0_highRange wDX0_highRange rfl (Nat.le_of_ble_eq_true rfl) (by decide) rfl ?_
  refine zz_lor dX1_join_27 ?_
  refine zz_callV0 (ci := 1) (c_putWords hr hj _ _) dX1_join_28 zw_m_X1_48 wYX1_putWords wDX1_putWords rfl (by omega) (px_rel (by omega)) rfl (Nat.le_of_ble_eq_true rfl) (by decide) rfl ?_
  refine zz_vret dX1_join_31 rfl ?_
  exact ⟨rfl, rfl⟩
set_option maxHeartbeats 1000000 in
set_option maxRecDepth 20000 in
theorem c_swapPair {r : Nat} (hr : r < 8) {j : Nat} (hj : j < 80) (b : Int32) : zz_Dt mX1_swapPair 2 0 0 [.ref r, .int (nI j), .int b] (px El Lo Hi BL BH Od Ls nn T) (.inl none) (px El (va_up Lo r (va_up (Lo r) j (Lo r j ^^^ lwR b (b + 1)))) (va_up Hi r (va_up (Hi r) j (Hi r j ^^^ hgR b (b + 1)))) BL BH Od Ls nn T) := by
  refine zz_start wPX1_swapPair rfl rfl (Nat.le_of_ble_eq_true rfl) ?_
  refine zz_aload_n dX1_swapPair_0 rfl ?_
  refine zz_iload_n dX1_swapPair_1 rfl ?_
  refine zz_aload_n dX1_swapPair_2 rfl ?_
  refine zz_iload_n dX1_swapPair_3 rfl ?_
  refine zz_callV1 (ci := 1) (c_lowAt hr hj) dX1_swapPair_4 zw_m_X1_36 wYX1_lowAt wDX1_lowAt rfl (by omega) (px_rel (by omega)) rfl (Nat.le_of_ble_eq_true rfl) (by decide) rfl ?_
  refine zz_iload_n dX1_swapPair_7 rfl ?_
  refine zz_iload_n dX1_swapPair_8 rfl ?_
  refine zz_iconst (v := 1) dX1_swapPair_9 (by decide) ?_
  refine zz_iadd dX1_swapPair_10 ?_
  refine zz_callS1 (c_lowRange _ _) dX1_swapPair_11 zw_m_X1_52 wYX0_lowRange wDX0_lowRange rfl (Nat.le_of_ble_eq_true rfl) (by decide) rfl ?_
  refine zz_lxor dX1_swapPair_14 ?_
  refine zz_aload_n dX1_swapPair_15 rfl ?_
  refine zz_iload_n dX1_swapPair_16 rfl ?_
  refine zz_callV1 (ci := 1) (c_highAt hr hj) dX1_swapPair_17 zw_m_X1_43 wYX1_highAt wDX1_highAt rfl (by omega) (px_rel (by omega)) rfl (Nat.le_of_ble_eq_true rfl) (by decide) rfl ?_
  refine zz_iload_n dX1_swapPair_20 rfl ?_
  refine zz_iload_n dX1_swapPair_21 rfl ?_
  refine zz_iconst (v := 1) dX1_swapPair_22 (by decide) ?_
  refine zz_iadd dX1_swapPair_23 ?_
  refine zz_callS1 (c_highRange _ _) dX1_swapPair_24 zw_m_X1_56 wYX0_highRange wDX0_highRange rfl (Nat.le_of_ble_eq_true rfl) (by decide) rfl ?_
  refine zz_lxor dX1_swapPair_27 ?_
  refine zz_callV0 (ci := 1) (c_putWords hr hj _ _) dX1_swapPair_28 zw_m_X1_48 wYX1_putWords wDX1_putWords rfl (by omega) (px_rel (by omega)) rfl (Nat.le_of_ble_eq_true rfl) (by decide) rfl ?_
  refine zz_vret dX1_swapPair_31 rfl ?_
  exact ⟨rfl, rfl⟩
set_option maxHeartbeats 1000000 in
set_option maxRecDepth 20000 in
theorem c_sizeOf {r : Nat} (hr : r < 8) {j : Nat} (hj : j < 80) : zz_Dt mX1_sizeOf 1 0 0 [.ref r, .int (nI j)] (px El Lo Hi BL BH Od Ls nn T) (.inl (some (.int (szr (Lo r j) (Hi r j))))) (px El Lo Hi BL BH Od Ls nn T) := by
  refine zz_start wPX1_sizeOf rfl rfl (Nat.le_of_ble_eq_true rfl) ?_
  refine zz_aload_n dX1_sizeOf_0 rfl ?_
  refine zz_iload_n dX1_sizeOf_1 rfl ?_
  refine zz_callV1 (ci := 1) (c_lowAt hr hj) dX1_sizeOf_2 zw_m_X1_36 wYX1_lowAt wDX1_lowAt rfl (by omega) (px_rel (by omega)) rfl (Nat.le_of_ble_eq_true rfl) (by decide) rfl ?_
  refine zz_callS1 (c_bitCount _) dX1_sizeOf_5 zw_m_X1_63 wYJ13_bitCount_95d88 wDJ13_bitCount_95d88 rfl (Nat.le_of_ble_eq_true rfl) (by decide) rfl ?_
  refine zz_aload_n dX1_sizeOf_8 rfl ?_
  refine zz_iload_n dX1_sizeOf_9 rfl ?_
  refine zz_callV1 (ci := 1) (c_highAt hr hj) dX1_sizeOf_10 zw_m_X1_43 wYX1_highAt wDX1_highAt rfl (by omega) (px_rel (by omega)) rfl (Nat.le_of_ble_eq_true rfl) (by decide) rfl ?_
  refine zz_callS1 (c_bitCount _) dX1_sizeOf_13 zw_m_X1_63 wYJ13_bitCount_95d88 wDJ13_bitCount_95d88 rfl (Nat.le_of_ble_eq_true rfl) (by decide) rfl ?_
  refine zz_iadd dX1_sizeOf_16 ?_
  refine zz_iret dX1_sizeOf_17 rfl ?_
  exact ⟨rfl, rfl⟩
set_option maxHeartbeats 1000000 in
set_option maxRecDepth 20000 in
theorem c_elementsInside {r : Nat} (hr : r < 8) : zz_Dt mX1_elementsInside 0 0 0 [.ref r] (px El Lo Hi BL BH Od Ls nn T) (.inl (some (.int (El r)))) (px El Lo Hi BL BH Od Ls nn T) := by
  refine zz_start wPX1_elementsInside rfl rfl (Nat.le_of_ble_eq_true rfl) ?_
  refine zz_aload_n dX1_elementsInside_0 rfl ?_
  refine zg_el zw_f_X1_9 dX1_elementsInside_1 (by omega) ?_
  refine zz_iret dX1_elementsInside_4 rfl ?_
  exact ⟨rfl, rfl⟩
set_option maxHeartbeats 1000000 in
set_option maxRecDepth 20000 in
theorem l_pairs {r : Nat} (hr : r < 8) {n : Nat} (hE : El r = nI n) (hn : n ≤ 80) : ∀ (m i : Nat), i + m = n → zz_E mX1_pairs none 2 0 0 (fun o τ => o = .inl (some (.int (prs (Lo r) (Hi r) n))) ∧ τ = px El Lo Hi BL BH Od Ls nn T) 4 [(2, .int (nI i)), (1, .int (prs (Lo r) (Hi r) i)), (0, .ref r)] [] (px El Lo Hi BL BH Od Ls nn T) := by
  intro m
  induction m with
  | zero =>
    intro i hi
    have hi : i = n := by omega
    subst hi
    refine zz_iload_n dX1_pairs_4 rfl ?_
    refine zz_aload_n dX1_pairs_5 rfl ?_
    refine zg_el zw_f_X1_9 dX1_pairs_6 (by omega) ?_
    refine zz_icmp_ge (tgt := 26) dX1_pairs_9 (by decide) (fun _ => ?_) (fun h => absurd (by rw [hE]; exact nI_le (by omega) (by omega)) h)
    refine zz_iload_n dX1_pairs_26 rfl ?_
    refine zz_iret dX1_pairs_27 rfl ?_
    exact ⟨rfl, rfl⟩
  | succ m ih =>
    intro i hi
    refine zz_iload_n dX1_pairs_4 rfl ?_
    refine zz_aload_n dX1_pairs_5 rfl ?_
    refine zg_el zw_f_X1_9 dX1_pairs_6 (by omega) ?_
    refine zz_icmp_ge (tgt := 26) dX1_pairs_9 (by decide) (fun h => absurd h (by rw [hE]; exact nI_ge (by omega) (by omega))) (fun _ => ?_)
    refine zz_iload_n dX1_pairs_12 rfl ?_
    refine zz_aload_n dX1_pairs_13 rfl ?_
    refine zz_iload_n dX1_pairs_14 rfl ?_
    refine zz_callV1 (ci := 1) (c_sizeOf hr (by omega)) dX1_pairs_15 zw_m_X1_69 wYX1_sizeOf wDX1_sizeOf rfl (by omega) (px_rel (by omega)) rfl (Nat.le_of_ble_eq_true rfl) (by decide) rfl ?_
    refine zz_iadd dX1_pairs_18 ?_
    refine zz_istore_n dX1_pairs_19 (by decide) ?_
    refine zz_iinc (v := nI (i + 1)) dX1_pairs_20 rfl (nI_1 i) (by decide) ?_
    refine zz_goto (tgt := 4) dX1_pairs_23 (by decide) ?_
    exact ih (i + 1) (by omega)
set_option maxHeartbeats 1000000 in
set_option maxRecDepth 20000 in
theorem c_pairs {r : Nat} (hr : r < 8) {n : Nat} (hE : El r = nI n) (hn : n ≤ 80) : zz_Dt mX1_pairs 2 0 0 [.ref r] (px El Lo Hi BL BH Od Ls nn T) (.inl (some (.int (prs (Lo r) (Hi r) n)))) (px El Lo Hi BL BH Od Ls nn T) := by
  refine zz_start wPX1_pairs rfl rfl (Nat.le_of_ble_eq_true rfl) ?_
  refine zz_iconst (v := 0) dX1_pairs_0 (by decide) ?_
  refine zz_istore_n dX1_pairs_1 (by decide) ?_
  refine zz_iconst (v := 0) dX1_pairs_2 (by decide) ?_
  refine zz_istore_n dX1_pairs_3 (by decide) ?_
  exact l_pairs hr hE hn n 0 (by omega)
set_option maxHeartbeats 1000000 in
set_option maxRecDepth 20000 in
theorem l_ownPairs {r : Nat} (hr : r < 8) {n : Nat} (hE : El r = nI n) (hn : n ≤ 80) : ∀ (m i : Nat), i + m = n → zz_E mX1_ownPairs none 2 0 0 (fun o τ => o = .inl (some (.int (ows (Lo r) (Hi r) n))) ∧ τ = px El Lo Hi BL BH Od Ls nn T) 4 [(2, .int (nI i)), (1, .int (ows (Lo r) (Hi r) i)), (0, .ref r)] [] (px El Lo Hi BL BH Od Ls nn T) := by
  intro m
  induction m with
  | zero =>
    intro i hi
    have hi : i = n := by omega
    subst hi
    refine zz_iload_n dX1_ownPairs_4 rfl ?_
    refine zz_aload_n dX1_ownPairs_5 rfl ?_
    refine zg_el zw_f_X1_9 dX1_ownPairs_6 (by omega) ?_
    refine zz_icmp_ge (tgt := 30) dX1_ownPairs_9 (by decide) (fun _ => ?_) (fun h => absurd (by rw [hE]; exact nI_le (by omega) (by omega)) h)
    refine zz_iload_n dX1_ownPairs_30 rfl ?_
    refine zz_iret dX1_ownPairs_31 rfl ?_
    exact ⟨rfl, rfl⟩
  | succ m ih =>
    intro i hi
    refine zz_iload_n dX1_ownPairs_4 rfl ?_
    refine zz_aload_n dX1_ownPairs_5 rfl ?_
    refine zg_el zw_f_X1_9 dX1_ownPairs_6 (by omega) ?_
    refine zz_icmp_ge (tgt := 30) dX1_ownPairs_9 (by decide) (fun h => absurd h (by rw [hE]; exact nI_ge (by omega) (by omega))) (fun _ => ?_)
    refine zz_aload_n dX1_ownPairs_12 rfl ?_
    refine zz_iload_n dX1_ownPairs_13 rfl ?_
    refine zz_iload_n dX1_ownPairs_14 rfl ?_
    refine zz_callV1 (ci := 1) (c_rholds hr (by omega) _) dX1_ownPairs_15 zw_m_X1_73 wYX1_holds wDX1_holds rfl (by omega) (px_rel (by omega)) rfl (Nat.le_of_ble_eq_true rfl) (by decide) rfl ?_
    refine zz_if_eq (tgt := 24) dX1_ownPairs_18 (by decide) (fun h18 => ?_) (fun h18 => ?_)
    · refine zz_iinc (v := nI (i + 1)) dX1_ownPairs_24 rfl (nI_1 i) (by decide) ?_
      refine zz_goto (tgt := 4) dX1_ownPairs_27 (by decide) ?_
      have h9 := ih (i + 1) (by omega)
      have e1 := h18
      first | (rw [zB_0] at e1; simp only [ows, e1, Bool.false_eq_true, reduceIte] at h9; exact h9) | (rw [zB_n] at e1; simp only [ows, e1, reduceIte] at h9; exact h9)
    · refine zz_iinc dX1_ownPairs_21 rfl rfl (by decide) ?_
      refine zz_iinc (v := nI (i + 1)) dX1_ownPairs_24 rfl (nI_1 i) (by decide) ?_
      refine zz_goto (tgt := 4) dX1_ownPairs_27 (by decide) ?_
      have h9 := ih (i + 1) (by omega)
      have e1 := h18
      first | (rw [zB_0] at e1; simp only [ows, e1, Bool.false_eq_true, reduceIte] at h9; exact h9) | (rw [zB_n] at e1; simp only [ows, e1, reduceIte] at h9; exact h9)
set_option maxHeartbeats 1000000 in
set_option maxRecDepth 20000 in
theorem c_ownPairs {r : Nat} (hr : r < 8) {n : Nat} (hE : El r = nI n) (hn : n ≤ 80) : zz_Dt mX1_ownPairs 2 0 0 [.ref r] (px El Lo Hi BL BH Od Ls nn T) (.inl (some (.int (ows (Lo r) (Hi r) n)))) (px El Lo Hi BL BH Od Ls nn T) := by
  refine zz_start wPX1_ownPairs rfl rfl (Nat.le_of_ble_eq_true rfl) ?_
  refine zz_iconst (v := 0) dX1_ownPairs_0 (by decide) ?_
  refine zz_istore_n dX1_ownPairs_1 (by decide) ?_
  refine zz_iconst (v := 0) dX1_ownPairs_2 (by decide) ?_
  refine zz_istore_n dX1_ownPairs_3 (by decide) ?_
  exact l_ownPairs hr hE hn n 0 (by omega)
set_option maxHeartbeats 1000000 in
set_option maxRecDepth 20000 in
theorem l_restart {r : Nat} (hr : r < 8) (z : Int32) : ∀ (m i : Nat), i + m = 80 → zz_E mX1_restart none 2 0 0 (fun o τ => o = .inl none ∧ τ = px El (va_up Lo r (cpy 80 (fun _ => BL (24 + r)) (Lo r))) (va_up Hi r (cpy 80 (fun _ => BH (24 + r)) (Hi r))) BL BH Od Ls nn T) 14 [(2, .int (nI i)), (0, .ref r), (1, .int z)] [] (px El (va_up Lo r (cpy i (fun _ => BL (24 + r)) (Lo r))) (va_up Hi r (cpy i (fun _ => BH (24 + r)) (Hi r))) BL BH Od Ls nn T) := by
  intro m
  induction m with
  | zero =>
    intro i hi
    have hi : i = 80 := by omega
    subst hi
    refine zz_iload_n dX1_restart_14 rfl ?_
    refine zz_bipush (v := 80) dX1_restart_15 (by decide) ?_
    refine zz_icmp_ge (tgt := 35) dX1_restart_17 (by decide) (fun _ => ?_) (fun h => absurd (nI_le (a := 80) (by omega) (by omega)) h)
    refine zz_vret dX1_restart_35 rfl ?_
    exact ⟨rfl, rfl⟩
  | succ m ih =>
    intro i hi
    refine zz_iload_n dX1_restart_14 rfl ?_
    refine zz_bipush (v := 80) dX1_restart_15 (by decide) ?_
    refine zz_icmp_ge (tgt := 35) dX1_restart_17 (by decide) (fun h => absurd h (nI_ge (b := 80) (by omega) (by omega))) (fun _ => ?_)
    refine zz_aload_n dX1_restart_20 rfl ?_
    refine zz_iload_n dX1_restart_21 rfl ?_
    refine zz_aload_n dX1_restart_22 rfl ?_
    refine zg_rw zw_f_X1_25 dX1_restart_23 (by omega) ?_
    refine zz_callV0 (ci := 1) (c_putRow hr (by omega) (by omega)) dX1_restart_26 zw_m_X1_32 wYX1_putRow wDX1_putRow rfl (by omega) (px_rel (by omega)) rfl (Nat.le_of_ble_eq_true rfl) (by decide) rfl ?_
    refine zz_iinc (v := nI (i + 1)) dX1_restart_29 rfl (nI_1 i) (by decide) ?_
    refine zz_goto (tgt := 14) dX1_restart_32 (by decide) ?_
    rw [cs_s, cs_s]
    exact ih (i + 1) (by omega)
set_option maxHeartbeats 1000000 in
set_option maxRecDepth 20000 in
theorem c_restart {r : Nat} (hr : r < 8) (z : Int32) : zz_Dt mX1_restart 2 0 0 [.ref r, .int z] (px El Lo Hi BL BH Od Ls nn T) (.inl none) (px (va_up El r z) (va_up Lo r (cpy 80 (fun _ => 0) (Lo r))) (va_up Hi r (cpy 80 (fun _ => 0) (Hi r))) (va_up BL (24 + r) 0) (va_up BH (24 + r) 0) Od Ls nn T) := by
  refine zz_start wPX1_restart rfl rfl (Nat.le_of_ble_eq_true rfl) ?_
  refine zz_aload_n dX1_restart_0 rfl ?_
  refine zz_iload_n dX1_restart_1 rfl ?_
  refine zp_el zw_f_X1_9 dX1_restart_2 (by omega) ?_
  refine zz_aload_n dX1_restart_5 rfl ?_
  refine zg_rw zw_f_X1_25 dX1_restart_6 (by omega) ?_
  refine zz_callV0 (ci := 0) (c_clear (by omega)) dX1_restart_9 zw_m_X1_29 wYX0_clear wDX0_clear rfl (by omega) (px_bit (by omega)) rfl (Nat.le_of_ble_eq_true rfl) (by decide) rfl ?_
  refine zz_iconst (v := 0) dX1_restart_12 (by decide) ?_
  refine zz_istore_n dX1_restart_13 (by decide) ?_
  have h9 := l_restart (El := va_up El r z) (Lo := Lo) (Hi := Hi) (BL := va_up BL (24 + r) 0) (BH := va_up BH (24 + r) 0) (Od := Od) (Ls := Ls) (nn := nn) (T := T) hr z 80 0 (by omega)
  rw [cpy_0, cpy_0, up_self, up_self, up_at, up_at] at h9
  exact h9
set_option maxHeartbeats 1000000 in
set_option maxRecDepth 20000 in
theorem l_take {r : Nat} (hr : r < 8) {q : Nat} (hq : q < 8) {n : Nat} (hE : El r = nI n) (hn : n ≤ 80) : ∀ (m i : Nat), i + m = n → zz_E mX1_take none 1 0 0 (fun o τ => o = .inl none ∧ τ = px El (va_up Lo r (cpy n (Lo q) (Lo r))) (va_up Hi r (cpy n (Hi q) (Hi r))) BL BH Od Ls nn T) 10 [(2, .int (nI i)), (0, .ref r), (1, .ref q)] [] (px El (va_up Lo r (cpy i (Lo q) (Lo r))) (va_up Hi r (cpy i (Hi q) (Hi r))) BL BH Od Ls nn T) := by
  intro m
  induction m with
  | zero =>
    intro i hi
    have hi : i = n := by omega
    subst hi
    refine zz_iload_n dX1_take_10 rfl ?_
    refine zz_aload_n dX1_take_11 rfl ?_
    refine zg_el zw_f_X1_9 dX1_take_12 (by omega) ?_
    refine zz_icmp_ge (tgt := 39) dX1_take_15 (by decide) (fun _ => ?_) (fun h => absurd (by rw [hE]; exact nI_le (by omega) (by omega)) h)
    refine zz_vret dX1_take_39 rfl ?_
    exact ⟨rfl, rfl⟩
  | succ m ih =>
    intro i hi
    refine zz_iload_n dX1_take_10 rfl ?_
    refine zz_aload_n dX1_take_11 rfl ?_
    refine zg_el zw_f_X1_9 dX1_take_12 (by omega) ?_
    refine zz_icmp_ge (tgt := 39) dX1_take_15 (by decide) (fun h => absurd h (by rw [hE]; exact nI_ge (by omega) (by omega))) (fun _ => ?_)
    refine zz_aload_n dX1_take_18 rfl ?_
    refine zz_iload_n dX1_take_19 rfl ?_
    refine zz_aload_n dX1_take_20 rfl ?_
    refine zz_iload_n dX1_take_21 rfl ?_
    refine zz_callV1 (ci := 1) (c_lowAt hq (by omega)) dX1_take_22 zw_m_X1_36 wYX1_lowAt wDX1_lowAt rfl (by omega) (px_rel (by omega)) rfl (Nat.le_of_ble_eq_true rfl) (by decide) rfl ?_
    refine zz_aload_n dX1_take_25 rfl ?_
    refine zz_iload_n dX1_take_26 rfl ?_
    refine zz_callV1 (ci := 1) (c_highAt hq (by omega)) dX1_take_27 zw_m_X1_43 wYX1_highAt wDX1_highAt rfl (by omega) (px_rel (by omega)) rfl (Nat.le_of_ble_eq_true rfl) (by decide) rfl ?_
    refine zz_callV0 (ci := 1) (c_putWords hr (by omega) _ _) dX1_take_30 zw_m_X1_48 wYX1_putWords wDX1_putWords rfl (by omega) (px_rel (by omega)) rfl (Nat.le_of_ble_eq_true rfl) (by decide) rfl ?_
    refine zz_iinc (v := nI (i + 1)) dX1_take_33 rfl (nI_1 i) (by decide) ?_
    refine zz_goto (tgt := 10) dX1_take_36 (by decide) ?_
    rw [tk_s, tk_s]
    exact ih (i + 1) (by omega)
set_option maxHeartbeats 1000000 in
set_option maxRecDepth 20000 in
theorem c_take {r : Nat} (hr : r < 8) {q : Nat} (hq : q < 8) {n : Nat} (hE : El q = nI n) (hn : n ≤ 80) : zz_Dt mX1_take 1 0 0 [.ref r, .ref q] (px El Lo Hi BL BH Od Ls nn T) (.inl none) (px (va_up El r (El q)) (va_up Lo r (cpy n (Lo q) (Lo r))) (va_up Hi r (cpy n (Hi q) (Hi r))) BL BH Od Ls nn T) := by
  refine zz_start wPX1_take rfl rfl (Nat.le_of_ble_eq_true rfl) ?_
  refine zz_aload_n dX1_take_0 rfl ?_
  refine zz_aload_n dX1_take_1 rfl ?_
  refine zg_el zw_f_X1_9 dX1_take_2 (by omega) ?_
  refine zp_el zw_f_X1_9 dX1_take_5 (by omega) ?_
  refine zz_iconst (v := 0) dX1_take_8 (by decide) ?_
  refine zz_istore_n dX1_take_9 (by decide) ?_
  have h9 := l_take (El := va_up El r (El q)) (Lo := Lo) (Hi := Hi) (BL := BL) (BH := BH) (Od := Od) (Ls := Ls) (nn := nn) (T := T) hr hq (n := n) (by rw [up_at]; exact hE) hn n 0 (by omega)
  rw [cpy_0, cpy_0, up_self, up_self] at h9
  exact h9
end ZZ1
