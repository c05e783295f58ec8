section ZZ0
variable {El : Nat → Int32} {Lo Hi : Nat → Nat → Int64} {BL BH : Nat → Int64} {Od : Nat → Nat → Int32} {Ls : Nat → Int32} {nn : Int32} {T : zz_St}
/-- x >>> k, as the machine shifts a long -/
def sh64 (x : Int64) (k : Int32) : Int64 := (x.toUInt64 >>> (k.toInt64.toUInt64 &&& Int64.toUInt64 63)).toInt64
def bel (e : Int32) : Int64 := if e < 64 then (if 0 < e then (1 : Int64) <<< (e.toInt64 &&& 63) - 1 else 0) else -1
def lwR (a b : Int32) : Int64 := bel b &&& (bel a ^^^ -1)
def hgR (a b : Int32) : Int64 := bel (b - 64) &&& (bel (a - 64) ^^^ -1)
def bc1 (i : Int64) : Int64 := i - (sh64 i 1 &&& 6148914691236517205)
def bc2 (i : Int64) : Int64 := (i &&& 3689348814741910323) + (sh64 i 2 &&& 3689348814741910323)
def bc3 (i : Int64) : Int64 := (i + sh64 i 4) &&& 1085102592571150095
def bc4 (i : Int64) : Int64 := i + sh64 i 8
def bc5 (i : Int64) : Int64 := i + sh64 i 16
def bc6 (i : Int64) : Int64 := i + sh64 i 32
/-- how many bits are 1, as Long.bitCount counts -/
def bcn (i : Int64) : Int32 := (bc6 (bc5 (bc4 (bc3 (bc2 (bc1 i)))))).toInt32 &&& 127
def pol (x : Int64) : Int32 := bcn ((x &&& -x) - 1)
def hld (lo hi : Int64) (e : Int32) : Bool := decide (¬ ((if e < 64 then sh64 lo e else sh64 hi (e - 64)) &&& 1) = 0)
def lsf (lo hi : Int64) (e : Int32) : Int32 := if lo &&& (bel e ^^^ -1) = 0 then (if hi &&& (bel (e - 64) ^^^ -1) = 0 then -1 else 64 + pol (hi &&& (bel (e - 64) ^^^ -1))) else pol (lo &&& (bel e ^^^ -1))
def grt (lo hi : Int64) : Nat → Int32
  | 0 => -1
  | n + 1 => if hld lo hi (nI n) = true then nI n else grt lo hi n
theorem cmp_e {x y : Int64} : lg_cmp x y = 0 ↔ x = y := by
  unfold lg_cmp
  split
  · constructor
    · intro h; exact absurd h (by decide)
    · intro h; rename_i hh; subst h; exact absurd hh (by simp)
  · split
    · rename_i h; exact ⟨fun _ => h, fun _ => rfl⟩
    · rename_i h; exact ⟨fun q => absurd q (by decide), fun q => absurd q h⟩
set_option maxHeartbeats 1000000 in
set_option maxRecDepth 20000 in
theorem c_bitCount {σ : zz_St} (x : Int64) : zz_Dt mJ13_bitCount_95d88 0 0 0 [.long x] (σ) (.inl (some (.int (bcn x)))) (σ) := by
  refine zz_start wPJ13_bitCount_95d88 rfl rfl (Nat.le_of_ble_eq_true rfl) ?_
  refine zz_lload_n dJ13_bitCount_95d88_0 rfl ?_
  refine zz_lload_n dJ13_bitCount_95d88_1 rfl ?_
  refine zz_iconst (v := 1) dJ13_bitCount_95d88_2 (by decide) ?_
  refine zz_lushr dJ13_bitCount_95d88_3 rfl ?_
  refine zz_ldc2 dJ13_bitCount_95d88_4 zw_k_J13_314 ?_
  refine zz_land dJ13_bitCount_95d88_7 ?_
  refine zz_lsub dJ13_bitCount_95d88_8 ?_
  refine zz_lstore_n dJ13_bitCount_95d88_9 (by decide) ?_
  refine zz_lload_n dJ13_bitCount_95d88_10 rfl ?_
  refine zz_ldc2 dJ13_bitCount_95d88_11 zw_k_J13_316 ?_
  refine zz_land dJ13_bitCount_95d88_14 ?_
  refine zz_lload_n dJ13_bitCount_95d88_15 rfl ?_
  refine zz_iconst (v := 2) dJ13_bitCount_95d88_16 (by decide) ?_
  refine zz_lushr dJ13_bitCount_95d88_17 rfl ?_
  refine zz_ldc2 dJ13_bitCount_95d88_18 zw_k_J13_316 ?_
  refine zz_land dJ13_bitCount_95d88_21 ?_
  refine zz_ladd dJ13_bitCount_95d88_22 ?_
  refine zz_lstore_n dJ13_bitCount_95d88_23 (by decide) ?_
  refine zz_lload_n dJ13_bitCount_95d88_24 rfl ?_
  refine zz_lload_n dJ13_bitCount_95d88_25 rfl ?_
  refine zz_iconst (v := 4) dJ13_bitCount_95d88_26 (by decide) ?_
  refine zz_lushr dJ13_bitCount_95d88_27 rfl ?_
  refine zz_ladd dJ13_bitCount_95d88_28 ?_
  refine zz_ldc2 dJ13_bitCount_95d88_29 zw_k_J13_318 ?_
  refine zz_land dJ13_bitCount_95d88_32 ?_
  refine zz_lstore_n dJ13_bitCount_95d88_33 (by decide) ?_
  refine zz_lload_n dJ13_bitCount_95d88_34 rfl ?_
  refine zz_lload_n dJ13_bitCount_95d88_35 rfl ?_
  refine zz_bipush (v := 8) dJ13_bitCount_95d88_36 (by decide) ?_
  refine zz_lushr dJ13_bitCount_95d88_38 rfl ?_
  refine zz_ladd dJ13_bitCount_95d88_39 ?_
  refine zz_lstore_n dJ13_bitCount_95d88_40 (by decide) ?_
  refine zz_lload_n dJ13_bitCount_95d88_41 rfl ?_
  refine zz_lload_n dJ13_bitCount_95d88_42 rfl ?_
  refine zz_bipush (v := 16) dJ13_bitCount_95d88_43 (by decide) ?_
  refine zz_lushr dJ13_bitCount_95d88_45 rfl ?_
  refine zz_ladd dJ13_bitCount_95d88_46 ?_
  refine zz_lstore_n dJ13_bitCount_95d88_47 (by decide) ?_
  refine zz_lload_n dJ13_bitCount_95d88_48 rfl ?_
  refine zz_lload_n dJ13_bitCount_95d88_49 rfl ?_
  refine zz_bipush (v := 32) dJ13_bitCount_95d88_50 (by decide) ?_
  refine zz_lushr dJ13_bitCount_95d88_52 rfl ?_
  refine zz_ladd dJ13_bitCount_95d88_53 ?_
  refine zz_lstore_n dJ13_bitCount_95d88_54 (by decide) ?_
  refine zz_lload_n dJ13_bitCount_95d88_55 rfl ?_
  refine zz_l2i dJ13_bitCount_95d88_56 rfl ?_
  refine zz_bipush (v := 127) dJ13_bitCount_95d88_57 (by decide) ?_
  refine zz_iand dJ13_bitCount_95d88_59 ?_
  refine zz_iret dJ13_bitCount_95d88_60 rfl ?_
  exact ⟨rfl, rfl⟩
set_option maxHeartbeats 1000000 in
set_option maxRecDepth 20000 in
theorem c_below {σ : zz_St} (e : Int32) : zz_Dt mX0_below 0 0 0 [.int e] (σ) (.inl (some (.long (bel e)))) (σ) := by
  refine zz_start wPX0_below rfl rfl (Nat.le_of_ble_eq_true rfl) ?_
  refine zz_iload_n dX0_below_0 rfl ?_
  refine zz_bipush (v := 64) dX0_below_1 (by decide) ?_
  refine zz_icmp_lt (tgt := 10) dX0_below_3 (by decide) (fun h3 => ?_) (fun h3 => ?_)
  · refine zz_iload_n dX0_below_10 rfl ?_
    refine zz_if_gt (tgt := 18) dX0_below_11 (by decide) (fun h11 => ?_) (fun h11 => ?_)
    · refine zz_lconst (v := 1) dX0_below_18 (by decide) ?_
      refine zz_iload_n dX0_below_19 rfl ?_
      refine zz_lshl dX0_below_20 rfl ?_
      refine zz_lconst (v := 1) dX0_below_21 (by decide) ?_
      refine zz_lsub dX0_below_22 ?_
      refine zz_lret dX0_below_23 rfl ?_
      exact ⟨by simp [bel, *], rfl⟩
    · refine zz_lconst (v := 0) dX0_below_14 (by decide) ?_
      refine zz_goto (tgt := 23) dX0_below_15 (by decide) ?_
      refine zz_lret dX0_below_23 rfl ?_
      exact ⟨by simp [bel, *], rfl⟩
  · refine zz_ldc2 dX0_below_6 zw_k_X0_9 ?_
    refine zz_lret dX0_below_9 rfl ?_
    exact ⟨by simp [bel, *], rfl⟩
set_option maxHeartbeats 1000000 in
set_option maxRecDepth 20000 in
theorem c_lowRange {σ : zz_St} (a b : Int32) : zz_Dt mX0_lowRange 1 0 0 [.int a, .int b] (σ) (.inl (some (.long (lwR a b)))) (σ) := by
  refine zz_start wPX0_lowRange rfl rfl (Nat.le_of_ble_eq_true rfl) ?_
  refine zz_iload_n dX0_lowRange_0 rfl ?_
  refine zz_callS1 (c_below _) dX0_lowRange_1 zw_m_X0_11 wYX0_below wDX0_below rfl (Nat.le_of_ble_eq_true rfl) (by decide) rfl ?_
  refine zz_iload_n dX0_lowRange_4 rfl ?_
  refine zz_callS1 (c_below _) dX0_lowRange_5 zw_m_X0_11 wYX0_below wDX0_below rfl (Nat.le_of_ble_eq_true rfl) (by decide) rfl ?_
  refine zz_ldc2 dX0_lowRange_8 zw_k_X0_9 ?_
  refine zz_lxor dX0_lowRange_11 ?_
  refine zz_land dX0_lowRange_12 ?_
  refine zz_lret dX0_lowRange_13 rfl ?_
  exact ⟨rfl, rfl⟩
set_option maxHeartbeats 1000000 in
set_option maxRecDepth 20000 in
theorem c_highRange {σ : zz_St} (a b : Int32) : zz_Dt mX0_highRange 1 0 0 [.int a, .int b] (σ) (.inl (some (.long (hgR a b)))) (σ) := by
  refine zz_start wPX0_highRange rfl rfl (Nat.le_of_ble_eq_true rfl) ?_
  refine zz_iload_n dX0_highRange_0 rfl ?_
  refine zz_bipush (v := 64) dX0_highRange_1 (by decide) ?_
  refine zz_isub dX0_highRange_3 ?_
  refine zz_callS1 (c_below _) dX0_highRange_4 zw_m_X0_11 wYX0_below wDX0_below rfl (Nat.le_of_ble_eq_true rfl) (by decide) rfl ?_
  refine zz_iload_n dX0_highRange_7 rfl ?_
  refine zz_bipush (v := 64) dX0_highRange_8 (by decide) ?_
  refine zz_isub dX0_highRange_10 ?_
  refine zz_callS1 (c_below _) dX0_highRange_11 zw_m_X0_11 wYX0_below wDX0_below rfl (Nat.le_of_ble_eq_true rfl) (by decide) rfl ?_
  refine zz_ldc2 dX0_highRange_14 zw_k_X0_9 ?_
  refine zz_lxor dX0_highRange_17 ?_
  refine zz_land dX0_highRange_18 ?_
  refine zz_lret dX0_highRange_19 rfl ?_
  exact ⟨rfl, rfl⟩
set_option maxHeartbeats 1000000 in
set_option maxRecDepth 20000 in
theorem c_clear {p : Nat} (hp : 24 ≤ p ∧ p < 46) : zz_Dt mX0_clear 0 0 0 [.ref p] (px El Lo Hi BL BH Od Ls nn T) (.inl none) (px El Lo Hi (va_up BL p 0) (va_up BH p 0) Od Ls nn T) := by
  refine zz_start wPX0_clear rfl rfl (Nat.le_of_ble_eq_true rfl) ?_
  refine zz_aload_n dX0_clear_0 rfl ?_
  refine zz_lconst (v := 0) dX0_clear_1 (by decide) ?_
  refine zp_bl zw_f_X0_17 dX0_clear_2 (by omega) ?_
  refine zz_aload_n dX0_clear_5 rfl ?_
  refine zz_lconst (v := 0) dX0_clear_6 (by decide) ?_
  refine zp_bh zw_f_X0_21 dX0_clear_7 (by omega) ?_
  refine zz_vret dX0_clear_10 rfl ?_
  exact ⟨rfl, rfl⟩
set_option maxHeartbeats 1000000 in
set_option maxRecDepth 20000 in
theorem c_become {p : Nat} (hp : 24 ≤ p ∧ p < 46) {q : Nat} (hq : 24 ≤ q ∧ q < 46) : zz_Dt mX0_become 0 0 0 [.ref p, .ref q] (px El Lo Hi BL BH Od Ls nn T) (.inl none) (px El Lo Hi (va_up BL p (BL q)) (va_up BH p (BH q)) Od Ls nn T) := by
  refine zz_start wPX0_become rfl rfl (Nat.le_of_ble_eq_true rfl) ?_
  refine zz_aload_n dX0_become_0 rfl ?_
  refine zz_aload_n dX0_become_1 rfl ?_
  refine zg_bl zw_f_X0_17 dX0_become_2 (by omega) ?_
  refine zp_bl zw_f_X0_17 dX0_become_5 (by omega) ?_
  refine zz_aload_n dX0_become_8 rfl ?_
  refine zz_aload_n dX0_become_9 rfl ?_
  refine zg_bh zw_f_X0_21 dX0_become_10 (by omega) ?_
  refine zp_bh zw_f_X0_21 dX0_become_13 (by omega) ?_
  refine zz_vret dX0_become_16 rfl ?_
  exact ⟨rfl, rfl⟩
set_option maxHeartbeats 1000000 in
set_option maxRecDepth 20000 in
theorem c_unite {p : Nat} (hp : 24 ≤ p ∧ p < 46) {q : Nat} (hq : 24 ≤ q ∧ q < 46) : zz_Dt mX0_unite 0 0 0 [.ref p, .ref q] (px El Lo Hi BL BH Od Ls nn T) (.inl none) (px El Lo Hi (va_up BL p (BL p ||| BL q)) (va_up BH p (BH p ||| BH q)) Od Ls nn T) := by
  refine zz_start wPX0_unite rfl rfl (Nat.le_of_ble_eq_true rfl) ?_
  refine zz_aload_n dX0_unite_0 rfl ?_
  refine zz_dup dX0_unite_1 rfl ?_
  refine zg_bl zw_f_X0_17 dX0_unite_2 (by omega) ?_
  refine zz_aload_n dX0_unite_5 rfl ?_
  refine zg_bl zw_f_X0_17 dX0_unite_6 (by omega) ?_
  refine zz_lor dX0_unite_9 ?_
  refine zp_bl zw_f_X0_17 dX0_unite_10 (by omega) ?_
  refine zz_aload_n dX0_unite_13 rfl ?_
  refine zz_dup dX0_unite_14 rfl ?_
  refine zg_bh zw_f_X0_21 dX0_unite_15 (by omega) ?_
  refine zz_aload_n dX0_unite_18 rfl ?_
  refine zg_bh zw_f_X0_21 dX0_unite_19 (by omega) ?_
  refine zz_lor dX0_unite_22 ?_
  refine zp_bh zw_f_X0_21 dX0_unite_23 (by omega) ?_
  refine zz_vret dX0_unite_26 rfl ?_
  exact ⟨rfl, rfl⟩
set_option maxHeartbeats 1000000 in
set_option maxRecDepth 20000 in
theorem c_remove {p : Nat} (hp : 24 ≤ p ∧ p < 46) {q : Nat} (hq : 24 ≤ q ∧ q < 46) : zz_Dt mX0_remove 0 0 0 [.ref p, .ref q] (px El Lo Hi BL BH Od Ls nn T) (.inl none) (px El Lo Hi (va_up BL p (BL p &&& (BL q ^^^ -1))) (va_up BH p (BH p &&& (BH q ^^^ -1))) Od Ls nn T) := by
  refine zz_start wPX0_remove rfl rfl (Nat.le_of_ble_eq_true rfl) ?_
  refine zz_aload_n dX0_remove_0 rfl ?_
  refine zz_aload_n dX0_remove_1 rfl ?_
  refine zg_bl zw_f_X0_17 dX0_remove_2 (by omega) ?_
  refine zz_aload_n dX0_remove_5 rfl ?_
  refine zg_bl zw_f_X0_17 dX0_remove_6 (by omega) ?_
  refine zz_ldc2 dX0_remove_9 zw_k_X0_9 ?_
  refine zz_lxor dX0_remove_12 ?_
  refine zz_land dX0_remove_13 ?_
  refine zp_bl zw_f_X0_17 dX0_remove_14 (by omega) ?_
  refine zz_aload_n dX0_remove_17 rfl ?_
  refine zz_aload_n dX0_remove_18 rfl ?_
  refine zg_bh zw_f_X0_21 dX0_remove_19 (by omega) ?_
  refine zz_aload_n dX0_remove_22 rfl ?_
  refine zg_bh zw_f_X0_21 dX0_remove_23 (by omega) ?_
  refine zz_ldc2 dX0_remove_26 zw_k_X0_9 ?_
  refine zz_lxor dX0_remove_29 ?_
  refine zz_land dX0_remove_30 ?_
  refine zp_bh zw_f_X0_21 dX0_remove_31 (by omega) ?_
  refine zz_vret dX0_remove_34 rfl ?_
  exact ⟨rfl, rfl⟩
set_option maxHeartbeats 1000000 in
set_option maxRecDepth 20000 in
theorem c_putRange {p : Nat} (hp : 24 ≤ p ∧ p < 46) (a b : Int32) (c : Bool) : zz_Dt mX0_putRange 2 0 0 [.ref p, .int a, .int b, .int (zB c)] (px El Lo Hi BL BH Od Ls nn T) (.inl none) (px El Lo Hi (va_up BL p (if c = true then BL p ||| lwR a b else BL p &&& (lwR a b ^^^ -1))) (va_up BH p (if c = true then BH p ||| hgR a b else BH p &&& (hgR a b ^^^ -1))) Od Ls nn T) := by
  refine zz_start wPX0_putRange rfl rfl (Nat.le_of_ble_eq_true rfl) ?_
  refine zz_iload_n dX0_putRange_0 rfl ?_
  refine zz_iload_n dX0_putRange_1 rfl ?_
  refine zz_callS1 (c_lowRange _ _) dX0_putRange_2 zw_m_X0_24 wYX0_lowRange wDX0_lowRange rfl (Nat.le_of_ble_eq_true rfl) (by decide) rfl ?_
  refine zz_lstore dX0_putRange_5 (by decide) ?_
  refine zz_iload_n dX0_putRange_7 rfl ?_
  refine zz_iload_n dX0_putRange_8 rfl ?_
  refine zz_callS1 (c_highRange _ _) dX0_putRange_9 zw_m_X0_28 wYX0_highRange wDX0_highRange rfl (Nat.le_of_ble_eq_true rfl) (by decide) rfl ?_
  refine zz_lstore dX0_putRange_12 (by decide) ?_
  refine zz_aload_n dX0_putRange_14 rfl ?_
  refine zz_iload_n dX0_putRange_15 rfl ?_
  refine zz_if_eq (tgt := 29) dX0_putRange_16 (by decide) (fun h16 => ?_) (fun h16 => ?_)
  · refine zz_aload_n dX0_putRange_29 rfl ?_
    refine zg_bl zw_f_X0_17 dX0_putRange_30 (by omega) ?_
    refine zz_lload dX0_putRange_33 rfl ?_
    refine zz_ldc2 dX0_putRange_35 zw_k_X0_9 ?_
    refine zz_lxor dX0_putRange_38 ?_
    refine zz_land dX0_putRange_39 ?_
    refine zp_bl zw_f_X0_17 dX0_putRange_40 (by omega) ?_
    refine zz_aload_n dX0_putRange_43 rfl ?_
    refine zz_iload_n dX0_putRange_44 rfl ?_
    refine zz_if_eq (tgt := 58) dX0_putRange_45 (by decide) (fun h45 => ?_) (fun h45 => ?_)
    · refine zz_aload_n dX0_putRange_58 rfl ?_
      refine zg_bh zw_f_X0_21 dX0_putRange_59 (by omega) ?_
      refine zz_lload dX0_putRange_62 rfl ?_
      refine zz_ldc2 dX0_putRange_64 zw_k_X0_9 ?_
      refine zz_lxor dX0_putRange_67 ?_
      refine zz_land dX0_putRange_68 ?_
      refine zp_bh zw_f_X0_21 dX0_putRange_69 (by omega) ?_
      refine zz_vret dX0_putRange_72 rfl ?_
      first | exact ⟨rfl, rfl⟩ | (simp_all [zB_0, zB_n])
    · refine zz_aload_n dX0_putRange_48 rfl ?_
      refine zg_bh zw_f_X0_21 dX0_putRange_49 (by omega) ?_
      refine zz_lload dX0_putRange_52 rfl ?_
      refine zz_lor dX0_putRange_54 ?_
      refine zz_goto (tgt := 69) dX0_putRange_55 (by decide) ?_
      refine zp_bh zw_f_X0_21 dX0_putRange_69 (by omega) ?_
      refine zz_vret dX0_putRange_72 rfl ?_
      first | exact ⟨rfl, rfl⟩ | (simp_all [zB_0, zB_n])
  · refine zz_aload_n dX0_putRange_19 rfl ?_
    refine zg_bl zw_f_X0_17 dX0_putRange_20 (by omega) ?_
    refine zz_lload dX0_putRange_23 rfl ?_
    refine zz_lor dX0_putRange_25 ?_
    refine zz_goto (tgt := 40) dX0_putRange_26 (by decide) ?_
    refine zp_bl zw_f_X0_17 dX0_putRange_40 (by omega) ?_
    refine zz_aload_n dX0_putRange_43 rfl ?_
    refine zz_iload_n dX0_putRange_44 rfl ?_
    refine zz_if_eq (tgt := 58) dX0_putRange_45 (by decide) (fun h45 => ?_) (fun h45 => ?_)
    · refine zz_aload_n dX0_putRange_58 rfl ?_
      refine zg_bh zw_f_X0_21 dX0_putRange_59 (by omega) ?_
      refine zz_lload dX0_putRange_62 rfl ?_
      refine zz_ldc2 dX0_putRange_64 zw_k_X0_9 ?_
      refine zz_lxor dX0_putRange_67 ?_
      refine zz_land dX0_putRange_68 ?_
      refine zp_bh zw_f_X0_21 dX0_putRange_69 (by omega) ?_
      refine zz_vret dX0_putRange_72 rfl ?_
      first | exact ⟨rfl, rfl⟩ | (simp_all [zB_0, zB_n])
    · refine zz_aload_n dX0_putRange_48 rfl ?_
      refine zg_bh zw_f_X0_21 dX0_putRange_49 (by omega) ?_
      refine zz_lload dX0_putRange_52 rfl ?_
      refine zz_lor dX0_putRange_54 ?_
      refine zz_goto (tgt := 69) dX0_putRange_55 (by decide) ?_
      refine zp_bh zw_f_X0_21 dX0_putRange_69 (by omega) ?_
      refine zz_vret dX0_putRange_72 rfl ?_
      first | exact ⟨rfl, rfl⟩ | (simp_all [zB_0, zB_n])
set_option maxHeartbeats 1000000 in
set_option maxRecDepth 20000 in
theorem c_invert {p : Nat} (hp : 24 ≤ p ∧ p < 46) (a b : Int32) : zz_Dt mX0_invert 2 0 0 [.ref p, .int a, .int b] (px El Lo Hi BL BH Od Ls nn T) (.inl none) (px El Lo Hi (va_up BL p (BL p ^^^ lwR a b)) (va_up BH p (BH p ^^^ hgR a b)) Od Ls nn T) := by
  refine zz_start wPX0_invert rfl rfl (Nat.le_of_ble_eq_true rfl) ?_
  refine zz_aload_n dX0_invert_0 rfl ?_
  refine zz_dup dX0_invert_1 rfl ?_
  refine zg_bl zw_f_X0_17 dX0_invert_2 (by omega) ?_
  refine zz_iload_n dX0_invert_5 rfl ?_
  refine zz_iload_n dX0_invert_6 rfl ?_
  refine zz_callS1 (c_lowRange _ _) dX0_invert_7 zw_m_X0_24 wYX0_lowRange wDX0_lowRange rfl (Nat.le_of_ble_eq_true rfl) (by decide) rfl ?_
  refine zz_lxor dX0_invert_10 ?_
  refine zp_bl zw_f_X0_17 dX0_invert_11 (by omega) ?_
  refine zz_aload_n dX0_invert_14 rfl ?_
  refine zz_dup dX0_invert_15 rfl ?_
  refine zg_bh zw_f_X0_21 dX0_invert_16 (by omega) ?_
  refine zz_iload_n dX0_invert_19 rfl ?_
  refine zz_iload_n dX0_invert_20 rfl ?_
  refine zz_callS1 (c_highRange _ _) dX0_invert_21 zw_m_X0_28 wYX0_highRange wDX0_highRange rfl (Nat.le_of_ble_eq_true rfl) (by decide) rfl ?_
  refine zz_lxor dX0_invert_24 ?_
  refine zp_bh zw_f_X0_21 dX0_invert_25 (by omega) ?_
  refine zz_vret dX0_invert_28 rfl ?_
  exact ⟨rfl, rfl⟩
set_option maxHeartbeats 1000000 in
set_option maxRecDepth 20000 in
theorem c_holds {p : Nat} (hp : 24 ≤ p ∧ p < 46) (e : Int32) : zz_Dt mX0_holds 0 0 0 [.ref p, .int e] (px El Lo Hi BL BH Od Ls nn T) (.inl (some (.int (zB (hld (BL p) (BH p) e))))) (px El Lo Hi BL BH Od Ls nn T) := by
  refine zz_start wPX0_holds rfl rfl (Nat.le_of_ble_eq_true rfl) ?_
  refine zz_iload_n dX0_holds_0 rfl ?_
  refine zz_bipush (v := 64) dX0_holds_1 (by decide) ?_
  refine zz_icmp_ge (tgt := 15) dX0_holds_3 (by decide) (fun h3 => ?_) (fun h3 => ?_)
  · refine zz_aload_n dX0_holds_15 rfl ?_
    refine zg_bh zw_f_X0_21 dX0_holds_16 (by omega) ?_
    refine zz_iload_n dX0_holds_19 rfl ?_
    refine zz_bipush (v := 64) dX0_holds_20 (by decide) ?_
    refine zz_isub dX0_holds_22 ?_
    refine zz_lushr dX0_holds_23 rfl ?_
    refine zz_lstore_n dX0_holds_24 (by decide) ?_
    refine zz_lload_n dX0_holds_25 rfl ?_
    refine zz_lconst (v := 1) dX0_holds_26 (by decide) ?_
    refine zz_land dX0_holds_27 ?_
    refine zz_lconst (v := 0) dX0_holds_28 (by decide) ?_
    refine zz_lcmp dX0_holds_29 ?_
    refine zz_if_eq (tgt := 37) dX0_holds_30 (by decide) (fun h30 => ?_) (fun h30 => ?_)
    · refine zz_iconst (v := 0) dX0_holds_37 (by decide) ?_
      refine zz_zret dX0_holds_38 rfl (by first | rfl | exact zB_nar _) ?_
      refine ⟨?_, rfl⟩
      first | (simp_all [hld, cmp_e, zB, sh64]; done) | (have h3b := Int32.not_lt.mpr h3; unfold hld; rw [if_neg h3b]; simp_all [cmp_e, zB, sh64]; done)
    · refine zz_iconst (v := 1) dX0_holds_33 (by decide) ?_
      refine zz_goto (tgt := 38) dX0_holds_34 (by decide) ?_
      refine zz_zret dX0_holds_38 rfl (by first | rfl | exact zB_nar _) ?_
      refine ⟨?_, rfl⟩
      first | (simp_all [hld, cmp_e, zB, sh64]; done) | (have h3b := Int32.not_lt.mpr h3; unfold hld; rw [if_neg h3b]; simp_all [cmp_e, zB, sh64]; done)
  · refine zz_aload_n dX0_holds_6 rfl ?_
    refine zg_bl zw_f_X0_17 dX0_holds_7 (by omega) ?_
    refine zz_iload_n dX0_holds_10 rfl ?_
    refine zz_lushr dX0_holds_11 rfl ?_
    refine zz_goto (tgt := 24) dX0_holds_12 (by decide) ?_
    refine zz_lstore_n dX0_holds_24 (by decide) ?_
    refine zz_lload_n dX0_holds_25 rfl ?_
    refine zz_lconst (v := 1) dX0_holds_26 (by decide) ?_
    refine zz_land dX0_holds_27 ?_
    refine zz_lconst (v := 0) dX0_holds_28 (by decide) ?_
    refine zz_lcmp dX0_holds_29 ?_
    refine zz_if_eq (tgt := 37) dX0_holds_30 (by decide) (fun h30 => ?_) (fun h30 => ?_)
    · refine zz_iconst (v := 0) dX0_holds_37 (by decide) ?_
      refine zz_zret dX0_holds_38 rfl (by first | rfl | exact zB_nar _) ?_
      refine ⟨?_, rfl⟩
      first | (simp_all [hld, cmp_e, zB, sh64]; done) | (have h3b := Int32.not_lt.mpr h3; unfold hld; rw [if_neg h3b]; simp_all [cmp_e, zB, sh64]; done)
    · refine zz_iconst (v := 1) dX0_holds_33 (by decide) ?_
      refine zz_goto (tgt := 38) dX0_holds_34 (by decide) ?_
      refine zz_zret dX0_holds_38 rfl (by first | rfl | exact zB_nar _) ?_
      refine ⟨?_, rfl⟩
      first | (simp_all [hld, cmp_e, zB, sh64]; done) | (have h3b := Int32.not_lt.mpr h3; unfold hld; rw [if_neg h3b]; simp_all [cmp_e, zB, sh64]; done)
set_option maxHeartbeats 1000000 in
set_option maxRecDepth 20000 in
theorem c_isEmpty {p : Nat} (hp : 24 ≤ p ∧ p < 46) : zz_Dt mX0_isEmpty 0 0 0 [.ref p] (px El Lo Hi BL BH Od Ls nn T) (.inl (some (.int (zB (decide (BL p = 0) && decide (BH p = 0)))))) (px El Lo Hi BL BH Od Ls nn T) := by
  refine zz_start wPX0_isEmpty rfl rfl (Nat.le_of_ble_eq_true rfl) ?_
  refine zz_aload_n dX0_isEmpty_0 rfl ?_
  refine zg_bl zw_f_X0_17 dX0_isEmpty_1 (by omega) ?_
  refine zz_lconst (v := 0) dX0_isEmpty_4 (by decide) ?_
  refine zz_lcmp dX0_isEmpty_5 ?_
  refine zz_if_ne (tgt := 22) dX0_isEmpty_6 (by decide) (fun h6 => ?_) (fun h6 => ?_)
  · refine zz_iconst (v := 0) dX0_isEmpty_22 (by decide) ?_
    refine zz_zret dX0_isEmpty_23 rfl (by first | rfl | exact zB_nar _) ?_
    refine ⟨?_, rfl⟩
    first | (simp_all [hld, cmp_e, zB, sh64]; done) | (have h3b := Int32.not_lt.mpr h3; unfold hld; rw [if_neg h3b]; simp_all [cmp_e, zB, sh64]; done)
  · refine zz_aload_n dX0_isEmpty_9 rfl ?_
    refine zg_bh zw_f_X0_21 dX0_isEmpty_10 (by omega) ?_
    refine zz_lconst (v := 0) dX0_isEmpty_13 (by decide) ?_
    refine zz_lcmp dX0_isEmpty_14 ?_
    refine zz_if_ne (tgt := 22) dX0_isEmpty_15 (by decide) (fun h15 => ?_) (fun h15 => ?_)
    · refine zz_iconst (v := 0) dX0_isEmpty_22 (by decide) ?_
      refine zz_zret dX0_isEmpty_23 rfl (by first | rfl | exact zB_nar _) ?_
      refine ⟨?_, rfl⟩
      first | (simp_all [hld, cmp_e, zB, sh64]; done) | (have h3b := Int32.not_lt.mpr h3; unfold hld; rw [if_neg h3b]; simp_all [cmp_e, zB, sh64]; done)
    · refine zz_iconst (v := 1) dX0_isEmpty_18 (by decide) ?_
      refine zz_goto (tgt := 23) dX0_isEmpty_19 (by decide) ?_
      refine zz_zret dX0_isEmpty_23 rfl (by first | rfl | exact zB_nar _) ?_
      refine ⟨?_, rfl⟩
      first | (simp_all [hld, cmp_e, zB, sh64]; done) | (have h3b := Int32.not_lt.mpr h3; unfold hld; rw [if_neg h3b]; simp_all [cmp_e, zB, sh64]; done)
set_option maxHeartbeats 1000000 in
set_option maxRecDepth 20000 in
theorem c_meets {p : Nat} (hp : 24 ≤ p ∧ p < 46) {q : Nat} (hq : 24 ≤ q ∧ q < 46) : zz_Dt mX0_meets 0 0 0 [.ref p, .ref q] (px El Lo Hi BL BH Od Ls nn T) (.inl (some (.int (zB (!(decide (BL p &&& BL q = 0) && decide (BH p &&& BH q = 0))))))) (px El Lo Hi BL BH Od Ls nn T) := by
  refine zz_start wPX0_meets rfl rfl (Nat.le_of_ble_eq_true rfl) ?_
  refine zz_aload_n dX0_meets_0 rfl ?_
  refine zg_bl zw_f_X0_17 dX0_meets_1 (by omega) ?_
  refine zz_aload_n dX0_meets_4 rfl ?_
  refine zg_bl zw_f_X0_17 dX0_meets_5 (by omega) ?_
  refine zz_land dX0_meets_8 ?_
  refine zz_lconst (v := 0) dX0_meets_9 (by decide) ?_
  refine zz_lcmp dX0_meets_10 ?_
  refine zz_if_ne (tgt := 28) dX0_meets_11 (by decide) (fun h11 => ?_) (fun h11 => ?_)
  · refine zz_iconst (v := 1) dX0_meets_28 (by decide) ?_
    refine zz_goto (tgt := 33) dX0_meets_29 (by decide) ?_
    refine zz_zret dX0_meets_33 rfl (by first | rfl | exact zB_nar _) ?_
    refine ⟨?_, rfl⟩
    first | (simp_all [hld, cmp_e, zB, sh64]; done) | (have h3b := Int32.not_lt.mpr h3; unfold hld; rw [if_neg h3b]; simp_all [cmp_e, zB, sh64]; done)
  · refine zz_aload_n dX0_meets_14 rfl ?_
    refine zg_bh zw_f_X0_21 dX0_meets_15 (by omega) ?_
    refine zz_aload_n dX0_meets_18 rfl ?_
    refine zg_bh zw_f_X0_21 dX0_meets_19 (by omega) ?_
    refine zz_land dX0_meets_22 ?_
    refine zz_lconst (v := 0) dX0_meets_23 (by decide) ?_
    refine zz_lcmp dX0_meets_24 ?_
    refine zz_if_eq (tgt := 32) dX0_meets_25 (by decide) (fun h25 => ?_) (fun h25 => ?_)
    · refine zz_iconst (v := 0) dX0_meets_32 (by decide) ?_
      refine zz_zret dX0_meets_33 rfl (by first | rfl | exact zB_nar _) ?_
      refine ⟨?_, rfl⟩
      first | (simp_all [hld, cmp_e, zB, sh64]; done) | (have h3b := Int32.not_lt.mpr h3; unfold hld; rw [if_neg h3b]; simp_all [cmp_e, zB, sh64]; done)
    · refine zz_iconst (v := 1) dX0_meets_28 (by decide) ?_
      refine zz_goto (tgt := 33) dX0_meets_29 (by decide) ?_
      refine zz_zret dX0_meets_33 rfl (by first | rfl | exact zB_nar _) ?_
      refine ⟨?_, rfl⟩
      first | (simp_all [hld, cmp_e, zB, sh64]; done) | (have h3b := Int32.not_lt.mpr h3; unfold hld; rw [if_neg h3b]; simp_all [cmp_e, zB, sh64]; done)
set_option maxHeartbeats 1000000 in
set_option maxRecDepth 20000 in
theorem c_isLike {p : Nat} (hp : 24 ≤ p ∧ p < 46) {q : Nat} (hq : 24 ≤ q ∧ q < 46) : zz_Dt mX0_isLike 0 0 0 [.ref p, .ref q] (px El Lo Hi BL BH Od Ls nn T) (.inl (some (.int (zB (decide (BL p = BL q) && decide (BH p = BH q)))))) (px El Lo Hi BL BH Od Ls nn T) := by
  refine zz_start wPX0_isLike rfl rfl (Nat.le_of_ble_eq_true rfl) ?_
  refine zz_aload_n dX0_isLike_0 rfl ?_
  refine zg_bl zw_f_X0_17 dX0_isLike_1 (by omega) ?_
  refine zz_aload_n dX0_isLike_4 rfl ?_
  refine zg_bl zw_f_X0_17 dX0_isLike_5 (by omega) ?_
  refine zz_lcmp dX0_isLike_8 ?_
  refine zz_if_ne (tgt := 28) dX0_isLike_9 (by decide) (fun h9 => ?_) (fun h9 => ?_)
  · refine zz_iconst (v := 0) dX0_isLike_28 (by decide) ?_
    refine zz_zret dX0_isLike_29 rfl (by first | rfl | exact zB_nar _) ?_
    refine ⟨?_, rfl⟩
    first | (simp_all [hld, cmp_e, zB, sh64]; done) | (have h3b := Int32.not_lt.mpr h3; unfold hld; rw [if_neg h3b]; simp_all [cmp_e, zB, sh64]; done)
  · refine zz_aload_n dX0_isLike_12 rfl ?_
    refine zg_bh zw_f_X0_21 dX0_isLike_13 (by omega) ?_
    refine zz_aload_n dX0_isLike_16 rfl ?_
    refine zg_bh zw_f_X0_21 dX0_isLike_17 (by omega) ?_
    refine zz_lcmp dX0_isLike_20 ?_
    refine zz_if_ne (tgt := 28) dX0_isLike_21 (by decide) (fun h21 => ?_) (fun h21 => ?_)
    · refine zz_iconst (v := 0) dX0_isLike_28 (by decide) ?_
      refine zz_zret dX0_isLike_29 rfl (by first | rfl | exact zB_nar _) ?_
      refine ⟨?_, rfl⟩
      first | (simp_all [hld, cmp_e, zB, sh64]; done) | (have h3b := Int32.not_lt.mpr h3; unfold hld; rw [if_neg h3b]; simp_all [cmp_e, zB, sh64]; done)
    · refine zz_iconst (v := 1) dX0_isLike_24 (by decide) ?_
      refine zz_goto (tgt := 29) dX0_isLike_25 (by decide) ?_
      refine zz_zret dX0_isLike_29 rfl (by first | rfl | exact zB_nar _) ?_
      refine ⟨?_, rfl⟩
      first | (simp_all [hld, cmp_e, zB, sh64]; done) | (have h3b := Int32.not_lt.mpr h3; unfold hld; rw [if_neg h3b]; simp_all [cmp_e, zB, sh64]; done)
set_option maxHeartbeats 1000000 in
set_option maxRecDepth 20000 in
theorem c_size {p : Nat} (hp : 24 ≤ p ∧ p < 46) : zz_Dt mX0_size 1 0 0 [.ref p] (px El Lo Hi BL BH Od Ls nn T) (.inl (some (.int (bcn (BL p) + bcn (BH p))))) (px El Lo Hi BL BH Od Ls nn T) := by
  refine zz_start wPX0_size rfl rfl (Nat.le_of_ble_eq_true rfl) ?_
  refine zz_aload_n dX0_size_0 rfl ?_
  refine zg_bl zw_f_X0_17 dX0_size_1 (by omega) ?_
  refine zz_callS1 (c_bitCount _) dX0_size_4 zw_m_X0_31 wYJ13_bitCount_95d88 wDJ13_bitCount_95d88 rfl (Nat.le_of_ble_eq_true rfl) (by decide) rfl ?_
  refine zz_aload_n dX0_size_7 rfl ?_
  refine zg_bh zw_f_X0_21 dX0_size_8 (by omega) ?_
  refine zz_callS1 (c_bitCount _) dX0_size_11 zw_m_X0_31 wYJ13_bitCount_95d88 wDJ13_bitCount_95d88 rfl (Nat.le_of_ble_eq_true rfl) (by decide) rfl ?_
  refine zz_iadd dX0_size_14 ?_
  refine zz_iret dX0_size_15 rfl ?_
  exact ⟨rfl, rfl⟩
set_option maxHeartbeats 1000000 in
set_option maxRecDepth 20000 in
theorem c_leastFrom {p : Nat} (hp : 24 ≤ p ∧ p < 46) (e : Int32) : zz_Dt mX0_leastFrom 2 0 0 [.ref p, .int e] (px El Lo Hi BL BH Od Ls nn T) (.inl (some (.int (lsf (BL p) (BH p) e)))) (px El Lo Hi BL BH Od Ls nn T) := by
  refine zz_start wPX0_leastFrom rfl rfl (Nat.le_of_ble_eq_true rfl) ?_
  refine zz_aload_n dX0_leastFrom_0 rfl ?_
  refine zg_bl zw_f_X0_17 dX0_leastFrom_1 (by omega) ?_
  refine zz_iload_n dX0_leastFrom_4 rfl ?_
  refine zz_callS1 (c_below _) dX0_leastFrom_5 zw_m_X0_11 wYX0_below wDX0_below rfl (Nat.le_of_ble_eq_true rfl) (by decide) rfl ?_
  refine zz_ldc2 dX0_leastFrom_8 zw_k_X0_9 ?_
  refine zz_lxor dX0_leastFrom_11 ?_
  refine zz_land dX0_leastFrom_12 ?_
  refine zz_lstore_n dX0_leastFrom_13 (by decide) ?_
  refine zz_lload_n dX0_leastFrom_14 rfl ?_
  refine zz_lconst (v := 0) dX0_leastFrom_15 (by decide) ?_
  refine zz_lcmp dX0_leastFrom_16 ?_
  refine zz_if_eq (tgt := 24) dX0_leastFrom_17 (by decide) (fun h17 => ?_) (fun h17 => ?_)
  · refine zz_aload_n dX0_leastFrom_24 rfl ?_
    refine zg_bh zw_f_X0_21 dX0_leastFrom_25 (by omega) ?_
    refine zz_iload_n dX0_leastFrom_28 rfl ?_
    refine zz_bipush (v := 64) dX0_leastFrom_29 (by decide) ?_
    refine zz_isub dX0_leastFrom_31 ?_
    refine zz_callS1 (c_below _) dX0_leastFrom_32 zw_m_X0_11 wYX0_below wDX0_below rfl (Nat.le_of_ble_eq_true rfl) (by decide) rfl ?_
    refine zz_ldc2 dX0_leastFrom_35 zw_k_X0_9 ?_
    refine zz_lxor dX0_leastFrom_38 ?_
    refine zz_land dX0_leastFrom_39 ?_
    refine zz_lstore dX0_leastFrom_40 (by decide) ?_
    refine zz_lload dX0_leastFrom_42 rfl ?_
    refine zz_lconst (v := 0) dX0_leastFrom_44 (by decide) ?_
    refine zz_lcmp dX0_leastFrom_45 ?_
    refine zz_if_ne (tgt := 51) dX0_leastFrom_46 (by decide) (fun h46 => ?_) (fun h46 => ?_)
    · refine zz_lload dX0_leastFrom_51 rfl ?_
      refine zz_lload dX0_leastFrom_53 rfl ?_
      refine zz_lneg dX0_leastFrom_55 ?_
      refine zz_land dX0_leastFrom_56 ?_
      refine zz_lconst (v := 1) dX0_leastFrom_57 (by decide) ?_
      refine zz_lsub dX0_leastFrom_58 ?_
      refine zz_callS1 (c_bitCount _) dX0_leastFrom_59 zw_m_X0_31 wYJ13_bitCount_95d88 wDJ13_bitCount_95d88 rfl (Nat.le_of_ble_eq_true rfl) (by decide) rfl ?_
      refine zz_istore dX0_leastFrom_62 (by decide) ?_
      refine zz_lload_n dX0_leastFrom_64 rfl ?_
      refine zz_lconst (v := 0) dX0_leastFrom_65 (by decide) ?_
      refine zz_lcmp dX0_leastFrom_66 ?_
      refine zz_if_eq (tgt := 75) dX0_leastFrom_67 (by decide) (fun h67 => ?_) (fun h67 => ?_)
      · refine zz_bipush (v := 64) dX0_leastFrom_75 (by decide) ?_
        refine zz_iload dX0_leastFrom_77 rfl ?_
        refine zz_iadd dX0_leastFrom_79 ?_
        refine zz_iret dX0_leastFrom_80 rfl ?_
        exact ⟨by simp_all [lsf, pol, cmp_e], rfl⟩
      · refine zz_iload dX0_leastFrom_70 rfl ?_
        refine zz_goto (tgt := 80) dX0_leastFrom_72 (by decide) ?_
        refine zz_iret dX0_leastFrom_80 rfl ?_
        exact ⟨by simp_all [lsf, pol, cmp_e], rfl⟩
    · refine zz_iconst (v := (-1)) dX0_leastFrom_49 (by decide) ?_
      refine zz_iret dX0_leastFrom_50 rfl ?_
      exact ⟨by simp_all [lsf, pol, cmp_e], rfl⟩
  · refine zz_lload_n dX0_leastFrom_20 rfl ?_
    refine zz_goto (tgt := 40) dX0_leastFrom_21 (by decide) ?_
    refine zz_lstore dX0_leastFrom_40 (by decide) ?_
    refine zz_lload dX0_leastFrom_42 rfl ?_
    refine zz_lconst (v := 0) dX0_leastFrom_44 (by decide) ?_
    refine zz_lcmp dX0_leastFrom_45 ?_
    refine zz_if_ne (tgt := 51) dX0_leastFrom_46 (by decide) (fun h46 => ?_) (fun h46 => ?_)
    · refine zz_lload dX0_leastFrom_51 rfl ?_
      refine zz_lload dX0_leastFrom_53 rfl ?_
      refine zz_lneg dX0_leastFrom_55 ?_
      refine zz_land dX0_leastFrom_56 ?_
      refine zz_lconst (v := 1) dX0_leastFrom_57 (by decide) ?_
      refine zz_lsub dX0_leastFrom_58 ?_
      refine zz_callS1 (c_bitCount _) dX0_leastFrom_59 zw_m_X0_31 wYJ13_bitCount_95d88 wDJ13_bitCount_95d88 rfl (Nat.le_of_ble_eq_true rfl) (by decide) rfl ?_
      refine zz_istore dX0_leastFrom_62 (by decide) ?_
      refine zz_lload_n dX0_leastFrom_64 rfl ?_
      refine zz_lconst (v := 0) dX0_leastFrom_65 (by decide) ?_
      refine zz_lcmp dX0_leastFrom_66 ?_
      refine zz_if_eq (tgt := 75) dX0_leastFrom_67 (by decide) (fun h67 => ?_) (fun h67 => ?_)
      · refine zz_bipush (v := 64) dX0_leastFrom_75 (by decide) ?_
        refine zz_iload dX0_leastFrom_77 rfl ?_
        refine zz_iadd dX0_leastFrom_79 ?_
        refine zz_iret dX0_leastFrom_80 rfl ?_
        exact ⟨by simp_all [lsf, pol, cmp_e], rfl⟩
      · refine zz_iload dX0_leastFrom_70 rfl ?_
        refine zz_goto (tgt := 80) dX0_leastFrom_72 (by decide) ?_
        refine zz_iret dX0_leastFrom_80 rfl ?_
        exact ⟨by simp_all [lsf, pol, cmp_e], rfl⟩
    · refine zz_iconst (v := (-1)) dX0_leastFrom_49 (by decide) ?_
      refine zz_iret dX0_leastFrom_50 rfl ?_
      exact ⟨by simp_all [lsf, pol, cmp_e], rfl⟩
set_option maxHeartbeats 1000000 in
set_option maxRecDepth 20000 in
theorem q_greatestTo {p : Nat} (hp : 24 ≤ p ∧ p < 46) (y : Int32) : ∀ (n : Nat) (x : Int32), n ≤ 80 → x = nI n + (-1) → zz_E mX0_greatestTo none 1 0 0 (fun o τ => o = .inl (some (.int (grt (BL p) (BH p) n))) ∧ τ = px El Lo Hi BL BH Od Ls nn T) 2 [(2, .int x), (0, .ref p), (1, .int y)] [] (px El Lo Hi BL BH Od Ls nn T) := by
  intro n
  induction n with
  | zero =>
    intro x hn hx
    have hx : x = -1 := by rw [hx]; rfl
    subst hx
    refine zz_iload_n dX0_greatestTo_2 rfl ?_
    refine zz_if_lt (tgt := 22) dX0_greatestTo_3 (by decide) (fun _ => ?_) (fun h => absurd (by decide) h)
    refine zz_iconst (v := (-1)) dX0_greatestTo_22 (by decide) ?_
    refine zz_iret dX0_greatestTo_23 rfl ?_
    exact ⟨rfl, rfl⟩
  | succ n ih =>
    intro x hn hx
    have hx : x = nI n := by rw [hx]; exact pk_m1 n
    subst hx
    refine zz_iload_n dX0_greatestTo_2 rfl ?_
    refine zz_if_lt (tgt := 22) dX0_greatestTo_3 (by decide) (fun h => absurd h (nI_pos (by omega))) (fun _ => ?_)
    refine zz_aload_n dX0_greatestTo_6 rfl ?_
    refine zz_iload_n dX0_greatestTo_7 rfl ?_
    refine zz_callV1 (ci := 0) (c_holds hp _) dX0_greatestTo_8 zw_m_X0_37 wYX0_holds wDX0_holds rfl (by omega) (px_bit (by omega)) rfl (Nat.le_of_ble_eq_true rfl) (by decide) rfl ?_
    refine zz_if_eq (tgt := 16) dX0_greatestTo_11 (by decide) (fun h11 => ?_) (fun h11 => ?_)
    · refine zz_iinc dX0_greatestTo_16 rfl rfl (by decide) ?_
      refine zz_goto (tgt := 2) dX0_greatestTo_19 (by decide) ?_
      exact ih _ (by omega) rfl |> fun h => zz_mono (fun o τ hh => by rw [hh.1, hh.2]; exact ⟨by simp_all [grt, zB_0], rfl⟩) h
    · refine zz_iload_n dX0_greatestTo_14 rfl ?_
      refine zz_iret dX0_greatestTo_15 rfl ?_
      exact ⟨by simp_all [grt, zB_n], rfl⟩
set_option maxHeartbeats 1000000 in
set_option maxRecDepth 20000 in
theorem c_greatestTo {p : Nat} (hp : 24 ≤ p ∧ p < 46) (j : Nat) (hj : j < 80) : zz_Dt mX0_greatestTo 1 0 0 [.ref p, .int (nI j)] (px El Lo Hi BL BH Od Ls nn T) (.inl (some (.int (grt (BL p) (BH p) (j + 1))))) (px El Lo Hi BL BH Od Ls nn T) := by
  refine zz_start wPX0_greatestTo rfl rfl (Nat.le_of_ble_eq_true rfl) ?_
  refine zz_iload_n dX0_greatestTo_0 rfl ?_
  refine zz_istore_n dX0_greatestTo_1 (by decide) ?_
  exact q_greatestTo hp (nI j) (j + 1) (nI j) (by omega) (pk_m1 j).symm
end ZZ0
