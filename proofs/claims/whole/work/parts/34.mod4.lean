section ZZM4
variable {MB : Nat → Nat → Bool} {MI : Nat → Nat → Int32} {n : Nat} {mt : Int32} {T : zz_St}
set_option maxHeartbeats 1000000 in
set_option maxRecDepth 20000 in
theorem ml_bgA {Q : zz_Q} {e z : Nat} (K : zz_E mX5_begin none 2 0 0 Q 48 [(3, .int (nI 25600)), (2, .int (nI z)), (0, .ref 54), (1, .int (nI e))] [] (pm (va_up MB 55 (cpy 25600 (fun _ => false) (MB 55))) MI (nI e) mt T)) : ∀ (m i : Nat), i + m = 25600 → zz_E mX5_begin none 2 0 0 (Q) 28 [(3, .int (nI i)), (2, .int (nI z)), (0, .ref 54), (1, .int (nI e))] [] (pm (va_up MB 55 (cpy i (fun _ => false) (MB 55))) MI (nI e) mt T) := by
  intro m
  induction m with
  | zero =>
    intro i hi
    have hi : i = 25600 := by omega
    subst hi
    refine zz_iload_n dX5_begin_28 rfl ?_
    refine zz_sipush (v := 25600) dX5_begin_29 (by decide) ?_
    refine zz_icmp_ge (tgt := 48) dX5_begin_32 (by decide) (fun _ => ?_) (fun h => absurd (nI_le (a := 25600) (by omega) (by omega)) h)
    exact K
  | succ m ih =>
    intro i hi
    refine zz_iload_n dX5_begin_28 rfl ?_
    refine zz_sipush (v := 25600) dX5_begin_29 (by decide) ?_
    refine zz_icmp_ge (tgt := 48) dX5_begin_32 (by decide) (fun h => absurd h (nI_ge (b := 25600) (by omega) (by omega))) (fun _ => ?_)
    refine zz_aload_n dX5_begin_35 rfl ?_
    refine zz_get (ci := 5) (j := 0) zz_inX5 rfl zw_f_X5_7 rfl (by decide) dX5_begin_36 (by omega) pm_o rfl ?_
    refine zz_iload_n dX5_begin_39 rfl ?_
    refine zz_iconst (v := 0) dX5_begin_40 (by decide) ?_
    refine zs_mb (b := false) dX5_begin_41 (by omega) (by simp only [ml55, ml56, ml57, ml58, ml59, ml60, ml61]; omega) (by simp only [ml55, ml56, ml57, ml58, ml59, ml60, ml61]; omega) ?_
    refine zz_iinc (v := nI (i + 1)) dX5_begin_42 rfl (nI_1 i) (by decide) ?_
    refine zz_goto (tgt := 28) dX5_begin_45 (by decide) ?_
    have h9 := ih (i + 1) (by omega)
    rw [← cpy_s i] at h9
    simp only [up_at, up_up]
    exact h9
set_option maxHeartbeats 1000000 in
set_option maxRecDepth 20000 in
theorem ml_bgB {S : Nat → Nat → Bool} {e z : Nat} : ∀ (m i : Nat), i + m = 80 → zz_E mX5_begin none 2 0 0 (fun o τ => o = .inl (some (.int (nI z))) ∧ τ = pm (va_up S 56 (cpy 80 (fun _ => false) (S 56))) MI (nI e) 0 T) 50 [(3, .int (nI i)), (2, .int (nI z)), (0, .ref 54), (1, .int (nI e))] [] (pm (va_up S 56 (cpy i (fun _ => false) (S 56))) MI (nI e) mt T) := by
  intro m
  induction m with
  | zero =>
    intro i hi
    have hi : i = 80 := by omega
    subst hi
    refine zz_iload_n dX5_begin_50 rfl ?_
    refine zz_bipush (v := 80) dX5_begin_51 (by decide) ?_
    refine zz_icmp_ge (tgt := 69) dX5_begin_53 (by decide) (fun _ => ?_) (fun h => absurd (nI_le (a := 80) (by omega) (by omega)) h)
    refine zz_aload_n dX5_begin_69 rfl ?_
    refine zz_iload_n dX5_begin_70 rfl ?_
    refine zz_callV1 (ci := 5) (m_told _) dX5_begin_71 zw_m_X5_80 wYX5_told wDX5_told rfl (by omega) pm_o rfl (Nat.le_of_ble_eq_true rfl) (by decide) rfl ?_
    refine zz_iret dX5_begin_74 rfl ?_
    exact ⟨rfl, rfl⟩
  | succ m ih =>
    intro i hi
    refine zz_iload_n dX5_begin_50 rfl ?_
    refine zz_bipush (v := 80) dX5_begin_51 (by decide) ?_
    refine zz_icmp_ge (tgt := 69) dX5_begin_53 (by decide) (fun h => absurd h (nI_ge (b := 80) (by omega) (by omega))) (fun _ => ?_)
    refine zz_aload_n dX5_begin_56 rfl ?_
    refine zz_get (ci := 5) (j := 1) zz_inX5 rfl zw_f_X5_13 rfl (by decide) dX5_begin_57 (by omega) pm_o rfl ?_
    refine zz_iload_n dX5_begin_60 rfl ?_
    refine zz_iconst (v := 0) dX5_begin_61 (by decide) ?_
    refine zs_mb (b := false) dX5_begin_62 (by omega) (by simp only [ml55, ml56, ml57, ml58, ml59, ml60, ml61]; omega) (by simp only [ml55, ml56, ml57, ml58, ml59, ml60, ml61]; omega) ?_
    refine zz_iinc (v := nI (i + 1)) dX5_begin_63 rfl (nI_1 i) (by decide) ?_
    refine zz_goto (tgt := 50) dX5_begin_66 (by decide) ?_
    have h9 := ih (i + 1) (by omega)
    rw [← cpy_s i] at h9
    simp only [up_at, up_up]
    exact h9
def isB (v : Int32) : Bool := decide (1 ≤ v) && decide (v ≤ 80)
theorem isB_n {e : Nat} (h1 : 1 ≤ e) (h2 : e ≤ 80) : isB (nI e) = true := by
  unfold isB
  rw [decide_eq_true (show (1 : Int32) ≤ nI e from nI_le (a := 1) h1 (by omega)), decide_eq_true (show nI e ≤ (80 : Int32) from nI_le (b := 80) h2 (by omega))]
  rfl
theorem isB_of {v : Int32} (h : isB v = true) : ∃ e, 1 ≤ e ∧ e ≤ 80 ∧ v = nI e := by
  unfold isB at h
  rw [Bool.and_eq_true, decide_eq_true_iff, decide_eq_true_iff] at h
  obtain ⟨j, hj, rfl⟩ := nI_of2 (n := 80) (M := 80) (by decide) (show ¬ v < 0 from fun hb => absurd (Int32.lt_of_le_of_lt h.1 hb) (by decide)) h.2
  exact ⟨j, (nI_leI (a := 1) (by omega) (by omega)).mp h.1, hj, rfl⟩
set_option maxHeartbeats 1000000 in
set_option maxRecDepth 20000 in
theorem m_begin_v {e : Nat} (h1 : 1 ≤ e) (h2 : e ≤ 80) : zz_C mX5_begin 2 0 0 [.ref 54, .int (nI e)] (pm MB MI (nI n) mt T) (fun o τ => o = .inl (some (.int (nI n))) ∧ τ = pm (va_up (va_up MB 55 (cpy 25600 (fun _ => false) (MB 55))) 56 (cpy 80 (fun _ => false) (MB 56))) MI (nI e) 0 T) := by
  have hB := isB_n h1 h2
  · refine zz_start wPX5_begin rfl rfl (Nat.le_of_ble_eq_true rfl) ?_
    refine zz_iload_n dX5_begin_0 rfl ?_
    refine zz_iconst (v := 1) dX5_begin_1 (by decide) ?_
    refine zz_bipush (v := 80) dX5_begin_2 (by decide) ?_
    refine zz_callS1 (m_in (nI e) 1 80) dX5_begin_4 zw_m_X5_51 wYX5_in wDX5_in rfl (Nat.le_of_ble_eq_true rfl) (by decide) rfl ?_
    refine zz_if_ne (tgt := 16) dX5_begin_7 (by decide) (fun _ => ?_) (fun q => absurd q (by rw [show (decide (1 ≤ nI e) && decide (nI e ≤ 80)) = true from hB]; decide))
    refine zz_aload_n dX5_begin_16 rfl ?_
    refine zz_get (ci := 5) (j := 2) zz_inX5 rfl zw_f_X5_16 rfl (by decide) dX5_begin_17 (by omega) pm_o rfl ?_
    refine zz_istore_n dX5_begin_20 (by decide) ?_
    refine zz_aload_n dX5_begin_21 rfl ?_
    refine zz_iload_n dX5_begin_22 rfl ?_
    refine zp_me zw_f_X5_16 dX5_begin_23 ?_
    refine zz_iconst (v := 0) dX5_begin_26 (by decide) ?_
    refine zz_istore_n dX5_begin_27 (by decide) ?_
    have h9 := fun Q K => ml_bgA (Q := Q) (MB := MB) (MI := MI) (mt := mt) (T := T) (e := e) (z := n) K 25600 0 (by omega)
    simp only [cpy_0, up_self] at h9
    refine h9 _ ?_
    refine zz_iconst (v := 0) dX5_begin_48 (by decide) ?_
    refine zz_istore_n dX5_begin_49 (by decide) ?_
    have h8 := ml_bgB (S := va_up MB 55 (cpy 25600 (fun _ => false) (MB 55))) (MI := MI) (mt := mt) (T := T) (e := e) (z := n) 80 0 (by omega)
    rw [cpy_0, up_self] at h8
    exact h8
set_option maxHeartbeats 1000000 in
set_option maxRecDepth 20000 in
theorem m_begin_x {v : Int32} (h : isB v = false) : zz_C mX5_begin 2 0 0 [.ref 54, .int v] (pm MB MI (nI n) mt T) (fun o τ => o = .inl (some (.int 0)) ∧ τ = pm MB MI (nI n) 1 T) := by
  · refine zz_start wPX5_begin rfl rfl (Nat.le_of_ble_eq_true rfl) ?_
    refine zz_iload_n dX5_begin_0 rfl ?_
    refine zz_iconst (v := 1) dX5_begin_1 (by decide) ?_
    refine zz_bipush (v := 80) dX5_begin_2 (by decide) ?_
    refine zz_callS1 (m_in v 1 80) dX5_begin_4 zw_m_X5_51 wYX5_in wDX5_in rfl (Nat.le_of_ble_eq_true rfl) (by decide) rfl ?_
    refine zz_if_ne (tgt := 16) dX5_begin_7 (by decide) (fun q => absurd (by rw [show (decide (1 ≤ v) && decide (v ≤ 80)) = false from h]; rfl) q) (fun _ => ?_)
    refine zz_aload_n dX5_begin_10 rfl ?_
    refine zz_iconst (v := 1) dX5_begin_11 (by decide) ?_
    refine zz_callV1 (ci := 5) (m_refuse 1) dX5_begin_12 zw_m_X5_77 wYX5_refuse wDX5_refuse rfl (by omega) pm_o rfl (Nat.le_of_ble_eq_true rfl) (by decide) rfl ?_
    refine zz_iret dX5_begin_15 rfl ?_
    exact ⟨rfl, rfl⟩
def chn (f : Nat → Bool) (r : Nat) : Nat → Nat → Bool
  | 0 => f
  | i + 1 => va_up (chn f r i) (6400 * r + 80 * i + (i + 1)) true
set_option maxHeartbeats 1000000 in
set_option maxRecDepth 20000 in
theorem ml_chain {r : Nat} (hr : r < 4) (hn : n ≤ 80) (h1 : 1 ≤ n) : ∀ (m i : Nat), i + m = n - 1 → zz_E mX5_chain none 4 0 0 (fun o τ => o = .inl (some (.int (nI (sm (fun j => cnt (fun k => chn (MB 55) r (n - 1) (6400 * r + 80 * j + k)) n) n)))) ∧ τ = pm (va_up MB 55 (chn (MB 55) r (n - 1))) MI (nI n) 0 T) 15 [(2, .int (nI i)), (0, .ref 54), (1, .int (nI r))] [] (pm (va_up MB 55 (chn (MB 55) r i)) MI (nI n) mt T) := by
  intro m
  induction m with
  | zero =>
    intro i hi
    have hi : i = n - 1 := by omega
    refine zz_iload_n dX5_chain_15 rfl ?_
    refine zz_iconst (v := 1) dX5_chain_16 (by decide) ?_
    refine zz_iadd dX5_chain_17 ?_
    refine zz_aload_n dX5_chain_18 rfl ?_
    refine zz_get (ci := 5) (j := 2) zz_inX5 rfl zw_f_X5_16 rfl (by decide) dX5_chain_19 (by omega) pm_o rfl ?_
    refine zz_icmp_ge (tgt := 45) dX5_chain_22 (by decide) (fun _ => ?_) (fun h => absurd (by rw [nI_1]; exact nI_le (by omega) (by omega)) h)
    refine zz_aload_n dX5_chain_45 rfl ?_
    refine zz_aload_n dX5_chain_46 rfl ?_
    refine zz_iload_n dX5_chain_47 rfl ?_
    refine zz_callV1 (ci := 5) (m_pairs hr hn) dX5_chain_48 zw_m_X5_73 wYX5_pairs wDX5_pairs rfl (by omega) pm_o rfl (Nat.le_of_ble_eq_true rfl) (by decide) rfl ?_
    refine zz_callV1 (ci := 5) (m_told _) dX5_chain_51 zw_m_X5_80 wYX5_told wDX5_told rfl (by omega) pm_o rfl (Nat.le_of_ble_eq_true rfl) (by decide) rfl ?_
    refine zz_iret dX5_chain_54 rfl ?_
    subst hi
    exact ⟨by simp only [up_at], rfl⟩
  | succ m ih =>
    intro i hi
    refine zz_iload_n dX5_chain_15 rfl ?_
    refine zz_iconst (v := 1) dX5_chain_16 (by decide) ?_
    refine zz_iadd dX5_chain_17 ?_
    refine zz_aload_n dX5_chain_18 rfl ?_
    refine zz_get (ci := 5) (j := 2) zz_inX5 rfl zw_f_X5_16 rfl (by decide) dX5_chain_19 (by omega) pm_o rfl ?_
    refine zz_icmp_ge (tgt := 45) dX5_chain_22 (by decide) (fun h => absurd h (by rw [nI_1]; exact nI_ge (by omega) (by omega))) (fun _ => ?_)
    refine zz_aload_n dX5_chain_25 rfl ?_
    refine zz_get (ci := 5) (j := 0) zz_inX5 rfl zw_f_X5_7 rfl (by decide) dX5_chain_26 (by omega) pm_o rfl ?_
    refine zz_iload_n dX5_chain_29 rfl ?_
    refine zz_iload_n dX5_chain_30 rfl ?_
    refine zz_iload_n dX5_chain_31 rfl ?_
    refine zz_iconst (v := 1) dX5_chain_32 (by decide) ?_
    refine zz_iadd dX5_chain_33 ?_
    rw [nI_1]
    refine zz_callS1 (m_place r i (i + 1)) dX5_chain_34 zw_m_X5_62 wYX5_place wDX5_place rfl (Nat.le_of_ble_eq_true rfl) (by decide) rfl ?_
    refine zz_iconst (v := 1) dX5_chain_37 (by decide) ?_
    refine zs_mb (b := true) dX5_chain_38 (by omega) (by simp only [ml55, ml56, ml57, ml58, ml59, ml60, ml61]; omega) (by simp only [ml55, ml56, ml57, ml58, ml59, ml60, ml61]; omega) ?_
    refine zz_iinc (v := nI (i + 1)) dX5_chain_39 rfl (nI_1 i) (by decide) ?_
    refine zz_goto (tgt := 15) dX5_chain_42 (by decide) ?_
    have h9 := ih (i + 1) (by omega)
    simp only [up_at, up_up]
    exact h9
set_option maxHeartbeats 1000000 in
set_option maxRecDepth 20000 in
theorem m_chain_v {r : Nat} (hr : r < 4) (hn : n ≤ 80) (h1 : 1 ≤ n) : zz_C mX5_chain 4 0 0 [.ref 54, .int (nI r)] (pm MB MI (nI n) mt T) (fun o τ => o = .inl (some (.int (nI (sm (fun j => cnt (fun k => chn (MB 55) r (n - 1) (6400 * r + 80 * j + k)) n) n)))) ∧ τ = pm (va_up MB 55 (chn (MB 55) r (n - 1))) MI (nI n) 0 T) := by
  have e1 := isR_t hr
  · refine zz_start wPX5_chain rfl rfl (Nat.le_of_ble_eq_true rfl) ?_
    refine zz_iload_n dX5_chain_0 rfl ?_
    refine zz_callS1 (m_isR _) dX5_chain_1 zw_m_X5_55 wYX5_isRelation wDX5_isRelation rfl (Nat.le_of_ble_eq_true rfl) (by decide) rfl ?_
    refine zz_if_ne (tgt := 13) dX5_chain_4 (by decide) (fun _ => ?_) (fun q => absurd q (by rw [e1]; decide))
    refine zz_iconst (v := 0) dX5_chain_13 (by decide) ?_
    refine zz_istore_n dX5_chain_14 (by decide) ?_
    have h9 := ml_chain (MB := MB) (MI := MI) (mt := mt) (T := T) hr hn h1 (n - 1) 0 (by omega)
    rw [show chn (MB 55) r 0 = MB 55 from rfl, up_self] at h9
    exact h9
set_option maxHeartbeats 1000000 in
set_option maxRecDepth 20000 in
theorem m_chain_x {v : Int32} (h : isR v = false) : zz_C mX5_chain 4 0 0 [.ref 54, .int v] (pm MB MI (nI n) mt T) (fun o τ => o = .inl (some (.int 0)) ∧ τ = pm MB MI (nI n) 1 T) := by
  · refine zz_start wPX5_chain rfl rfl (Nat.le_of_ble_eq_true rfl) ?_
    refine zz_iload_n dX5_chain_0 rfl ?_
    refine zz_callS1 (m_isR _) dX5_chain_1 zw_m_X5_55 wYX5_isRelation wDX5_isRelation rfl (Nat.le_of_ble_eq_true rfl) (by decide) rfl ?_
    refine zz_if_ne (tgt := 13) dX5_chain_4 (by decide) (fun q => absurd (by rw [h]; rfl) q) (fun _ => ?_)
    refine zz_aload_n dX5_chain_7 rfl ?_
    refine zz_iconst (v := 1) dX5_chain_8 (by decide) ?_
    refine zz_callV1 (ci := 5) (m_refuse 1) dX5_chain_9 zw_m_X5_77 wYX5_refuse wDX5_refuse rfl (by omega) pm_o rfl (Nat.le_of_ble_eq_true rfl) (by decide) rfl ?_
    refine zz_iret dX5_chain_12 rfl ?_
    exact ⟨rfl, rfl⟩
def sdA (x : Int32) : Int32 := x * 1103515245 + 12345
def elN (n : Nat) (x : Int32) : Nat := (x.toBitVec.toNat / 65536) % n
theorem us16 (x : Int32) : (x.toUInt32 >>> ((16 : Int32).toUInt32 &&& Int32.toUInt32 31)).toInt32 = nI (x.toBitVec.toNat / 65536) := by
  have hx := x.toBitVec.isLt
  apply Int32.toBitVec_inj.mp
  apply BitVec.eq_of_toNat_eq
  rw [pk_ushr x 16 16 (by decide), pk_tn (by omega)]
theorem rm16 {n : Nat} (h1 : 1 ≤ n) (hn : n ≤ 80) (x : Int32) : nI (x.toBitVec.toNat / 65536) - nI (x.toBitVec.toNat / 65536) / nI n * nI n = nI (elN n x) := by
  have hx := x.toBitVec.isLt
  exact pk_rem (by omega) (by omega) (by omega)
theorem elN_lt {n : Nat} (h1 : 1 ≤ n) (x : Int32) : elN n x < n := Nat.mod_lt _ (by omega)
/-- a relation's pairs and the seed, behind i draws -/
def drw (n r : Nat) (f : Nat → Bool) (x : Int32) : Nat → (Nat → Bool) × Int32
  | 0 => (f, x)
  | i + 1 => (va_up (drw n r f x i).1 (6400 * r + 80 * elN n (sdA (drw n r f x i).2) + elN n (sdA (sdA (drw n r f x i).2))) true, sdA (sdA (drw n r f x i).2))
set_option maxHeartbeats 1000000 in
set_option maxRecDepth 20000 in
theorem ml_draw {r : Nat} (hr : r < 4) (hn : n ≤ 80) (h1 : 1 ≤ n) (x : Int32) {w : Nat} (hw : w ≤ 200) : ∀ (m i : Nat), i + m = w → zz_E mX5_draw none 4 0 0 (fun o τ => o = .inl (some (.int (nI (sm (fun j => cnt (fun k => (drw n r (MB 55) x w).1 (6400 * r + 80 * j + k)) n) n)))) ∧ τ = pm (va_up MB 55 ((drw n r (MB 55) x w).1)) MI (nI n) 0 T) 36 [(5, .int (nI i)), (4, .int (drw n r (MB 55) x i).2), (0, .ref 54), (1, .int (nI r)), (2, .int x), (3, .int (nI w))] [] (pm (va_up MB 55 ((drw n r (MB 55) x i).1)) MI (nI n) mt T) := by
  intro m
  induction m with
  | zero =>
    intro i hi
    have hi : w = i := by omega
    subst hi
    refine zz_iload dX5_draw_36 rfl ?_
    refine zz_iload_n dX5_draw_38 rfl ?_
    refine zz_icmp_ge (tgt := 104) dX5_draw_39 (by decide) (fun _ => ?_) (fun h => absurd (nI_le (by omega) (by omega)) h)
    refine zz_aload_n dX5_draw_104 rfl ?_
    refine zz_aload_n dX5_draw_105 rfl ?_
    refine zz_iload_n dX5_draw_106 rfl ?_
    refine zz_callV1 (ci := 5) (m_pairs hr hn) dX5_draw_107 zw_m_X5_73 wYX5_pairs wDX5_pairs rfl (by omega) pm_o rfl (Nat.le_of_ble_eq_true rfl) (by decide) rfl ?_
    refine zz_callV1 (ci := 5) (m_told _) dX5_draw_110 zw_m_X5_80 wYX5_told wDX5_told rfl (by omega) pm_o rfl (Nat.le_of_ble_eq_true rfl) (by decide) rfl ?_
    refine zz_iret dX5_draw_113 rfl ?_
    exact ⟨by simp only [up_at], rfl⟩
  | succ m ih =>
    intro i hi
    refine zz_iload dX5_draw_36 rfl ?_
    refine zz_iload_n dX5_draw_38 rfl ?_
    refine zz_icmp_ge (tgt := 104) dX5_draw_39 (by decide) (fun h => absurd h (nI_ge (by omega) (by omega))) (fun _ => ?_)
    refine zz_iload dX5_draw_42 rfl ?_
    refine zz_ldc dX5_draw_44 zw_k_X5_97 ?_
    refine zz_imul dX5_draw_46 ?_
    refine zz_sipush (v := 12345) dX5_draw_47 (by decide) ?_
    refine zz_iadd dX5_draw_50 ?_
    refine zz_istore dX5_draw_51 (by decide) ?_
    refine zz_iload dX5_draw_53 rfl ?_
    refine zz_bipush (v := 16) dX5_draw_55 (by decide) ?_
    refine zz_iushr dX5_draw_57 (us16 _) ?_
    refine zz_aload_n dX5_draw_58 rfl ?_
    refine zz_get (ci := 5) (j := 2) zz_inX5 rfl zw_f_X5_16 rfl (by decide) dX5_draw_59 (by omega) pm_o rfl ?_
    refine zz_irem dX5_draw_62 (nI_ne0 (by omega) (by omega)) ?_
    rw [rm16 h1 hn]
    refine zz_istore dX5_draw_63 (by decide) ?_
    refine zz_iload dX5_draw_65 rfl ?_
    refine zz_ldc dX5_draw_67 zw_k_X5_97 ?_
    refine zz_imul dX5_draw_69 ?_
    refine zz_sipush (v := 12345) dX5_draw_70 (by decide) ?_
    refine zz_iadd dX5_draw_73 ?_
    refine zz_istore dX5_draw_74 (by decide) ?_
    refine zz_aload_n dX5_draw_76 rfl ?_
    refine zz_get (ci := 5) (j := 0) zz_inX5 rfl zw_f_X5_7 rfl (by decide) dX5_draw_77 (by omega) pm_o rfl ?_
    refine zz_iload_n dX5_draw_80 rfl ?_
    refine zz_iload dX5_draw_81 rfl ?_
    refine zz_iload dX5_draw_83 rfl ?_
    refine zz_bipush (v := 16) dX5_draw_85 (by decide) ?_
    refine zz_iushr dX5_draw_87 (us16 _) ?_
    refine zz_aload_n dX5_draw_88 rfl ?_
    refine zz_get (ci := 5) (j := 2) zz_inX5 rfl zw_f_X5_16 rfl (by decide) dX5_draw_89 (by omega) pm_o rfl ?_
    refine zz_irem dX5_draw_92 (nI_ne0 (by omega) (by omega)) ?_
    rw [rm16 h1 hn]
    refine zz_callS1 (m_place r (elN n (sdA (drw n r (MB 55) x i).2)) (elN n (sdA (sdA (drw n r (MB 55) x i).2)))) dX5_draw_93 zw_m_X5_62 wYX5_place wDX5_place rfl (Nat.le_of_ble_eq_true rfl) (by decide) rfl ?_
    refine zz_iconst (v := 1) dX5_draw_96 (by decide) ?_
    have q1 := elN_lt h1 (sdA (drw n r (MB 55) x i).2)
    have q2 := elN_lt h1 (sdA (sdA (drw n r (MB 55) x i).2))
    refine zs_mb (b := true) dX5_draw_97 (by omega) (by simp only [ml55, ml56, ml57, ml58, ml59, ml60, ml61]; omega) (by simp only [ml55, ml56, ml57, ml58, ml59, ml60, ml61]; omega) ?_
    refine zz_iinc (v := nI (i + 1)) dX5_draw_98 rfl (nI_1 i) (by decide) ?_
    refine zz_goto (tgt := 36) dX5_draw_101 (by decide) ?_
    have h9 := ih (i + 1) (by omega)
    simp only [up_at, up_up]
    refine zz_lvs (lv2 := [(5, .int (nI (i + 1))), (4, .int (sdA (sdA (drw n r (MB 55) x i).2))), (0, .ref 54), (1, .int (nI r)), (2, .int x), (3, .int (nI w))]) (fun q hq => by simp only [List.mem_cons, List.not_mem_nil, or_false] at hq; rcases hq with rfl | rfl | rfl | rfl | rfl | rfl <;> simp [zz_up1, zz_up2, Value.category, sdA]) ?_
    exact h9
def isM (v : Int32) : Bool := decide (0 ≤ v) && decide (v ≤ 200)
theorem isM_n {e : Nat} (h2 : e ≤ 200) : isM (nI e) = true := by
  unfold isM
  rw [decide_eq_true (show (0 : Int32) ≤ nI e from nI_le (a := 0) (Nat.zero_le e) (by omega)), decide_eq_true (show nI e ≤ (200 : Int32) from nI_le (b := 200) h2 (by omega))]
  rfl
set_option maxHeartbeats 1000000 in
set_option maxRecDepth 20000 in
theorem m_draw_v {r : Nat} (hr : r < 4) (hn : n ≤ 80) (h1 : 1 ≤ n) (x : Int32) {w : Nat} (hw : w ≤ 200) : zz_C mX5_draw 4 0 0 [.ref 54, .int (nI r), .int x, .int (nI w)] (pm MB MI (nI n) mt T) (fun o τ => o = .inl (some (.int (nI (sm (fun j => cnt (fun k => (drw n r (MB 55) x w).1 (6400 * r + 80 * j + k)) n) n)))) ∧ τ = pm (va_up MB 55 ((drw n r (MB 55) x w).1)) MI (nI n) 0 T) := by
  have e1 := isR_t hr
  have e2 := isM_n hw
  · refine zz_start wPX5_draw rfl rfl (Nat.le_of_ble_eq_true rfl) ?_
    refine zz_iload_n dX5_draw_0 rfl ?_
    refine zz_callS1 (m_isR _) dX5_draw_1 zw_m_X5_55 wYX5_isRelation wDX5_isRelation rfl (Nat.le_of_ble_eq_true rfl) (by decide) rfl ?_
    refine zz_if_ne (tgt := 13) dX5_draw_4 (by decide) (fun _ => ?_) (fun q => absurd q (by rw [e1]; decide))
    refine zz_iload_n dX5_draw_13 rfl ?_
    refine zz_iconst (v := 0) dX5_draw_14 (by decide) ?_
    refine zz_sipush (v := 200) dX5_draw_15 (by decide) ?_
    refine zz_callS1 (m_in (nI w) 0 200) dX5_draw_18 zw_m_X5_51 wYX5_in wDX5_in rfl (Nat.le_of_ble_eq_true rfl) (by decide) rfl ?_
    refine zz_if_ne (tgt := 30) dX5_draw_21 (by decide) (fun _ => ?_) (fun q => absurd q (by rw [show (decide (0 ≤ nI w) && decide (nI w ≤ 200)) = true from e2]; decide))
    refine zz_iload_n dX5_draw_30 rfl ?_
    refine zz_istore dX5_draw_31 (by decide) ?_
    refine zz_iconst (v := 0) dX5_draw_33 (by decide) ?_
    refine zz_istore dX5_draw_34 (by decide) ?_
    have h9 := ml_draw (MB := MB) (MI := MI) (mt := mt) (T := T) hr hn h1 x hw w 0 (by omega)
    rw [show (drw n r (MB 55) x 0).1 = MB 55 from rfl, up_self] at h9
    exact h9
set_option maxHeartbeats 1000000 in
set_option maxRecDepth 20000 in
theorem m_draw_x {v : Int32} (h : isR v = false) (x w : Int32) : zz_C mX5_draw 4 0 0 [.ref 54, .int v, .int x, .int w] (pm MB MI (nI n) mt T) (fun o τ => o = .inl (some (.int 0)) ∧ τ = pm MB MI (nI n) 1 T) := by
  · refine zz_start wPX5_draw rfl rfl (Nat.le_of_ble_eq_true rfl) ?_
    refine zz_iload_n dX5_draw_0 rfl ?_
    refine zz_callS1 (m_isR _) dX5_draw_1 zw_m_X5_55 wYX5_isRelation wDX5_isRelation rfl (Nat.le_of_ble_eq_true rfl) (by decide) rfl ?_
    refine zz_if_ne (tgt := 13) dX5_draw_4 (by decide) (fun q => absurd (by rw [h]; rfl) q) (fun _ => ?_)
    refine zz_aload_n dX5_draw_7 rfl ?_
    refine zz_iconst (v := 1) dX5_draw_8 (by decide) ?_
    refine zz_callV1 (ci := 5) (m_refuse 1) dX5_draw_9 zw_m_X5_77 wYX5_refuse wDX5_refuse rfl (by omega) pm_o rfl (Nat.le_of_ble_eq_true rfl) (by decide) rfl ?_
    refine zz_iret dX5_draw_12 rfl ?_
    exact ⟨rfl, rfl⟩
set_option maxHeartbeats 1000000 in
set_option maxRecDepth 20000 in
theorem m_draw_y {r : Nat} (hr : r < 4) {w : Int32} (h : isM w = false) (x : Int32) : zz_C mX5_draw 4 0 0 [.ref 54, .int (nI r), .int x, .int w] (pm MB MI (nI n) mt T) (fun o τ => o = .inl (some (.int 0)) ∧ τ = pm MB MI (nI n) 2 T) := by
  have e1 := isR_t hr
  · refine zz_start wPX5_draw rfl rfl (Nat.le_of_ble_eq_true rfl) ?_
    refine zz_iload_n dX5_draw_0 rfl ?_
    refine zz_callS1 (m_isR _) dX5_draw_1 zw_m_X5_55 wYX5_isRelation wDX5_isRelation rfl (Nat.le_of_ble_eq_true rfl) (by decide) rfl ?_
    refine zz_if_ne (tgt := 13) dX5_draw_4 (by decide) (fun _ => ?_) (fun q => absurd q (by rw [e1]; decide))
    refine zz_iload_n dX5_draw_13 rfl ?_
    refine zz_iconst (v := 0) dX5_draw_14 (by decide) ?_
    refine zz_sipush (v := 200) dX5_draw_15 (by decide) ?_
    refine zz_callS1 (m_in w 0 200) dX5_draw_18 zw_m_X5_51 wYX5_in wDX5_in rfl (Nat.le_of_ble_eq_true rfl) (by decide) rfl ?_
    refine zz_if_ne (tgt := 30) dX5_draw_21 (by decide) (fun q => absurd (by rw [show (decide (0 ≤ w) && decide (w ≤ 200)) = false from h]; rfl) q) (fun _ => ?_)
    refine zz_aload_n dX5_draw_24 rfl ?_
    refine zz_iconst (v := 2) dX5_draw_25 (by decide) ?_
    refine zz_callV1 (ci := 5) (m_refuse 2) dX5_draw_26 zw_m_X5_77 wYX5_refuse wDX5_refuse rfl (by omega) pm_o rfl (Nat.le_of_ble_eq_true rfl) (by decide) rfl ?_
    refine zz_iret dX5_draw_29 rfl ?_
    exact ⟨rfl, rfl⟩
end ZZM4
