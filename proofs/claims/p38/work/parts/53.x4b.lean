section ZZX4B
variable {El : Nat → Int32} {Lo Hi : Nat → Nat → Int64} {BL BH : Nat → Int64} {Od : Nat → Nat → Int32} {Ls : Nat → Int32} {n : Nat} {R : Nat → Nat → Nat → Bool} {mk : Nat → Bool} {T : zz_St}
theorem lk_cpy0 {e : Nat} (he : e ≤ 80) (A B : Nat → Int64) : lk (cpy 80 (fun _ => 0) A) (cpy 80 (fun _ => 0) B) e (fun _ _ => false) := fun i hi => by
  rw [cpy_lt (by omega), cpy_lt (by omega)]
  exact ls_0 e
set_option maxHeartbeats 1000000 in
set_option maxRecDepth 20000 in
theorem xl_begin {e : Nat} (he1 : 1 ≤ e) (he : e ≤ 80) : ∀ (m i : Nat), i + m = 4 → ∀ (El : Nat → Int32) (Lo Hi : Nat → Nat → Int64) (BL BH : Nat → Int64), (∀ q, q < i → El q = nI e ∧ lk (Lo q) (Hi q) e (fun _ _ => false)) → zz_E mX4_begin none 7 1 6 (xQ e (fun _ _ _ => false) (fun _ => false) T (.inl (some (.int (nI n))))) 33 [(3, .int (nI i)), (2, .int (nI n)), (0, .ref 52), (1, .int (nI e))] [] (px El Lo Hi BL BH Od Ls (nI e) T) := by
  intro m
  induction m with
  | zero =>
    intro i hi El Lo Hi BL BH hq
    have hi : i = 4 := by omega
    subst hi
    refine zz_iload_n dX4_begin_33 rfl ?_
    refine zz_iconst (v := 4) dX4_begin_34 (by decide) ?_
    refine zz_icmp_ge (tgt := 53) dX4_begin_35 (by decide) (fun _ => ?_) (fun h => absurd (nI_le (a := 4) (by omega) (by omega)) h)
    refine zz_aload_n dX4_begin_53 rfl ?_
    refine zz_get (ci := 4) (j := 2) zz_inX4 rfl zw_f_X4_23 rfl (by decide) dX4_begin_54 (by omega) px_x rfl ?_
    refine zz_callV0 (ci := 0) (c_clear (by omega)) dX4_begin_57 zw_m_X4_63 wYX0_clear wDX0_clear rfl (by omega) (px_bit (by omega)) rfl (Nat.le_of_ble_eq_true rfl) (by decide) rfl ?_
    refine zz_iload_n dX4_begin_60 rfl ?_
    refine zz_iret dX4_begin_61 rfl ?_
    refine xQ_i rfl ⟨⟨he1, he⟩, hq, ?_⟩
    rw [up_at, up_at]
    exact ls_0 e
  | succ m ih =>
    intro i hi El Lo Hi BL BH hq
    refine zz_iload_n dX4_begin_33 rfl ?_
    refine zz_iconst (v := 4) dX4_begin_34 (by decide) ?_
    refine zz_icmp_ge (tgt := 53) dX4_begin_35 (by decide) (fun h => absurd h (nI_ge (b := 4) (by omega) (by omega))) (fun _ => ?_)
    refine zz_aload_n dX4_begin_38 rfl ?_
    refine zz_iload_n dX4_begin_39 rfl ?_
    refine zz_callV1 (ci := 4) (x_ra_v (r := i) (by omega)) dX4_begin_40 zw_m_X4_55 wYX4_relationAt wDX4_relationAt rfl (by omega) px_x rfl (Nat.le_of_ble_eq_true rfl) (by decide) rfl ?_
    refine zz_iload_n dX4_begin_43 rfl ?_
    refine zz_callV0 (ci := 1) (c_restart (r := i) (by omega) _) dX4_begin_44 zw_m_X4_59 wYX1_restart wDX1_restart rfl (by omega) (px_rel (by omega)) rfl (Nat.le_of_ble_eq_true rfl) (by decide) rfl ?_
    refine zz_iinc (v := nI (i + 1)) dX4_begin_47 rfl (nI_1 i) (by decide) ?_
    refine zz_goto (tgt := 33) dX4_begin_50 (by decide) ?_
    refine ih (i + 1) (by omega) _ _ _ _ _ (fun q hqi => ?_)
    by_cases e9 : q = i
    · subst e9
      rw [up_at, up_at, up_at]
      exact ⟨rfl, lk_cpy0 he _ _⟩
    · rw [up_ne _ _ e9, up_ne _ _ e9, up_ne _ _ e9]
      exact hq q (by omega)
set_option maxHeartbeats 1000000 in
set_option maxRecDepth 20000 in
theorem x_begin_v {e : Nat} (he1 : 1 ≤ e) (he : e ≤ 80) : zz_C mX4_begin 7 1 6 [.ref 52, .int (nI e)] (px El Lo Hi BL BH Od Ls (nI n) T) (xQ e (fun _ _ _ => false) (fun _ => false) T (.inl (some (.int (nI n))))) := by
  · refine zz_start wPX4_begin rfl rfl (Nat.le_of_ble_eq_true rfl) ?_
    refine zz_iload_n dX4_begin_0 rfl ?_
    refine zz_iconst (v := 1) dX4_begin_1 (by decide) ?_
    refine zz_icmp_lt (tgt := 11) dX4_begin_2 (by decide) (fun h => absurd h (nI_nlt (b := 1) he1 (by omega))) (fun _ => ?_)
    refine zz_iload_n dX4_begin_5 rfl ?_
    refine zz_bipush (v := 80) dX4_begin_6 (by decide) ?_
    refine zz_icmp_le (tgt := 21) dX4_begin_8 (by decide) (fun _ => ?_) (fun h => absurd (nI_le (b := 80) he (by omega)) h)
    refine zz_aload_n dX4_begin_21 rfl ?_
    refine zz_get (ci := 4) (j := 0) zz_inX4 rfl zw_f_X4_9 rfl (by decide) dX4_begin_22 (by omega) px_x rfl ?_
    refine zz_istore_n dX4_begin_25 (by decide) ?_
    refine zz_aload_n dX4_begin_26 rfl ?_
    refine zz_iload_n dX4_begin_27 rfl ?_
    refine zp_nn zw_f_X4_9 dX4_begin_28 ?_
    refine zz_iconst (v := 0) dX4_begin_31 (by decide) ?_
    refine zz_istore_n dX4_begin_32 (by decide) ?_
    exact xl_begin (n := n) he1 he 4 0 rfl El Lo Hi BL BH (fun q hq => absurd hq (Nat.not_lt_zero q))
set_option maxHeartbeats 1000000 in
set_option maxRecDepth 20000 in
theorem x_begin_x {v : Int32} (h : isB v = false) : zz_C mX4_begin 7 1 6 [.ref 52, .int v] (px El Lo Hi BL BH Od Ls (nI n) T) (fun o τ => o = .inr "java/lang/IllegalArgumentException" ∧ τ = px El Lo Hi BL BH Od Ls (nI n) T) := by
  rcases isB_x h with h1 | ⟨h1, h2⟩
  · refine zz_start wPX4_begin rfl rfl (Nat.le_of_ble_eq_true rfl) ?_
    refine zz_iload_n dX4_begin_0 rfl ?_
    refine zz_iconst (v := 1) dX4_begin_1 (by decide) ?_
    refine zz_icmp_lt (tgt := 11) dX4_begin_2 (by decide) (fun _ => ?_) (fun q => absurd h1 q)
    refine zz_throw (cls := "java/lang/IllegalArgumentException") (text := "elements is out of range") (by decide +kernel) rfl rfl (by decide +kernel) zw_l_X4_48 zw_n_java_lang_IllegalArgumentException zz_at_iae zz_bd_iae (by decide +kernel) dX4_begin_11 dX4_begin_14 dX4_begin_15 dX4_begin_17 dX4_begin_20 (by omega) (by omega) (by omega) (Nat.le_of_ble_eq_true rfl) ?_
    exact ⟨rfl, rfl⟩
  · refine zz_start wPX4_begin rfl rfl (Nat.le_of_ble_eq_true rfl) ?_
    refine zz_iload_n dX4_begin_0 rfl ?_
    refine zz_iconst (v := 1) dX4_begin_1 (by decide) ?_
    refine zz_icmp_lt (tgt := 11) dX4_begin_2 (by decide) (fun q => absurd q h1) (fun _ => ?_)
    refine zz_iload_n dX4_begin_5 rfl ?_
    refine zz_bipush (v := 80) dX4_begin_6 (by decide) ?_
    refine zz_icmp_le (tgt := 21) dX4_begin_8 (by decide) (fun q => absurd q h2) (fun _ => ?_)
    refine zz_throw (cls := "java/lang/IllegalArgumentException") (text := "elements is out of range") (by decide +kernel) rfl rfl (by decide +kernel) zw_l_X4_48 zw_n_java_lang_IllegalArgumentException zz_at_iae zz_bd_iae (by decide +kernel) dX4_begin_11 dX4_begin_14 dX4_begin_15 dX4_begin_17 dX4_begin_20 (by omega) (by omega) (by omega) (Nat.le_of_ble_eq_true rfl) ?_
    exact ⟨rfl, rfl⟩
set_option maxHeartbeats 1000000 in
set_option maxRecDepth 20000 in
theorem x_set_v {r i k : Nat} (hr : r < 4) (hi : i < n) (hk : k < n) (b : Bool) (hI : cI n El Lo Hi BL BH R mk) : zz_C mX4_set 7 1 6 [.ref 52, .int (nI r), .int (nI i), .int (nI k), .int (zB b)] (px El Lo Hi BL BH Od Ls (nI n) T) (xQ n (va_up R r (va_up (R r) i (ptS (R r i) k (k + 1) b))) mk T (.inl (some (.int (zB (R r i k)))))) := by
  have hn := cI_n hI
  have hS := ls_put (cI_R hI hr i hi) (a := k) (e := k + 1) (by omega) hn (by omega) b
  · refine zz_start wPX4_set rfl rfl (Nat.le_of_ble_eq_true rfl) ?_
    refine zz_aload_n dX4_set_0 rfl ?_
    refine zz_iload_n dX4_set_1 rfl ?_
    refine zz_callV1 (ci := 4) (x_ra_v hr) dX4_set_2 zw_m_X4_55 wYX4_relationAt wDX4_relationAt rfl (by omega) px_x rfl (Nat.le_of_ble_eq_true rfl) (by decide) rfl ?_
    refine zz_astore dX4_set_5 (by decide) ?_
    refine zz_aload_n dX4_set_7 rfl ?_
    refine zz_iload_n dX4_set_8 rfl ?_
    refine zz_callV0 (ci := 4) (x_ce_v hi hn) dX4_set_9 zw_m_X4_66 wYX4_checkElement wDX4_checkElement rfl (by omega) px_x rfl (Nat.le_of_ble_eq_true rfl) (by decide) rfl ?_
    refine zz_aload_n dX4_set_12 rfl ?_
    refine zz_iload_n dX4_set_13 rfl ?_
    refine zz_callV0 (ci := 4) (x_ce_v hk hn) dX4_set_14 zw_m_X4_66 wYX4_checkElement wDX4_checkElement rfl (by omega) px_x rfl (Nat.le_of_ble_eq_true rfl) (by decide) rfl ?_
    refine zz_aload dX4_set_17 rfl ?_
    refine zz_iload_n dX4_set_19 rfl ?_
    refine zz_iload_n dX4_set_20 rfl ?_
    refine zz_callV1 (ci := 1) (c_rholds (show r < 8 by omega) (show i < 80 by omega) _) dX4_set_21 zw_m_X4_69 wYX1_holds wDX1_holds rfl (by omega) (px_rel (by omega)) rfl (Nat.le_of_ble_eq_true rfl) (by decide) rfl ?_
    refine zz_istore dX4_set_24 (by decide) ?_
    refine zz_aload dX4_set_26 rfl ?_
    refine zz_iload_n dX4_set_28 rfl ?_
    refine zz_aload_n dX4_set_29 rfl ?_
    refine zz_get (ci := 4) (j := 3) zz_inX4 rfl zw_f_X4_27 rfl (by decide) dX4_set_30 (by omega) px_x rfl ?_
    refine zz_callV0 (ci := 1) (c_rowInto (show r < 8 by omega) (show i < 80 by omega) (p := 33) (by omega)) dX4_set_33 zw_m_X4_73 wYX1_rowInto wDX1_rowInto rfl (by omega) (px_rel (by omega)) rfl (Nat.le_of_ble_eq_true rfl) (by decide) rfl ?_
    refine zz_aload_n dX4_set_36 rfl ?_
    refine zz_get (ci := 4) (j := 3) zz_inX4 rfl zw_f_X4_27 rfl (by decide) dX4_set_37 (by omega) px_x rfl ?_
    refine zz_iload_n dX4_set_40 rfl ?_
    refine zz_iload_n dX4_set_41 rfl ?_
    refine zz_iconst (v := 1) dX4_set_42 (by decide) ?_
    refine zz_iadd dX4_set_43 ?_
    refine zz_tope (y := nI (k + 1)) (nI_1 k) ?_
    refine zz_iload dX4_set_44 rfl ?_
    refine zz_callV0 (ci := 0) (c_putRange (by omega) _ _ b) dX4_set_46 zw_m_X4_77 wYX0_putRange wDX0_putRange rfl (by omega) (px_bit (by omega)) rfl (Nat.le_of_ble_eq_true rfl) (by decide) rfl ?_
    refine zz_aload dX4_set_49 rfl ?_
    refine zz_iload_n dX4_set_51 rfl ?_
    refine zz_aload_n dX4_set_52 rfl ?_
    refine zz_get (ci := 4) (j := 3) zz_inX4 rfl zw_f_X4_27 rfl (by decide) dX4_set_53 (by omega) px_x rfl ?_
    refine zz_callV0 (ci := 1) (c_putRow (show r < 8 by omega) (show i < 80 by omega) (p := 33) (by omega)) dX4_set_56 zw_m_X4_81 wYX1_putRow wDX1_putRow rfl (by omega) (px_rel (by omega)) rfl (Nat.le_of_ble_eq_true rfl) (by decide) rfl ?_
    refine zz_iload dX4_set_59 rfl ?_
    refine zz_zret dX4_set_61 rfl (by first | rfl | exact zB_nar _) ?_
    simp only [up_at, up_up]
    refine xQ_i (by rw [ls_hld (cI_R hI hr i hi) hn hk]) (cI_up hI (lk_row (cI_R hI hr) hS) (up_ne _ _ (by omega)) (up_ne _ _ (by omega)))
set_option maxHeartbeats 1000000 in
set_option maxRecDepth 20000 in
theorem x_set_1 {v : Int32} (h : isR v = false) (w u z : Int32) : zz_C mX4_set 7 1 6 [.ref 52, .int v, .int w, .int u, .int z] (px El Lo Hi BL BH Od Ls (nI n) T) (fun o τ => o = .inr "java/lang/IndexOutOfBoundsException" ∧ τ = px El Lo Hi BL BH Od Ls (nI n) T) := by
  · refine zz_start wPX4_set rfl rfl (Nat.le_of_ble_eq_true rfl) ?_
    refine zz_aload_n dX4_set_0 rfl ?_
    refine zz_iload_n dX4_set_1 rfl ?_
    refine zz_callV (ci := 4) (x_ra_x h) dX4_set_2 zw_m_X4_55 wYX4_relationAt wDX4_relationAt rfl (by omega) px_x rfl (Nat.le_of_ble_eq_true rfl) (by decide) (by omega) (by omega) rfl (fun v9 τ9 h9 => by cases h9.1) (fun E9 τ9 h9 => ?_)
    obtain ⟨h91, rfl⟩ := h9
    cases h91
    exact ⟨rfl, rfl⟩
set_option maxHeartbeats 1000000 in
set_option maxRecDepth 20000 in
theorem x_set_2 {r : Nat} (hr : r < 4) (hn : n ≤ 80) {w : Int32} (h : isE n w = false) (u z : Int32) : zz_C mX4_set 7 1 6 [.ref 52, .int (nI r), .int w, .int u, .int z] (px El Lo Hi BL BH Od Ls (nI n) T) (fun o τ => o = .inr "java/lang/IndexOutOfBoundsException" ∧ τ = px El Lo Hi BL BH Od Ls (nI n) T) := by
  · refine zz_start wPX4_set rfl rfl (Nat.le_of_ble_eq_true rfl) ?_
    refine zz_aload_n dX4_set_0 rfl ?_
    refine zz_iload_n dX4_set_1 rfl ?_
    refine zz_callV1 (ci := 4) (x_ra_v hr) dX4_set_2 zw_m_X4_55 wYX4_relationAt wDX4_relationAt rfl (by omega) px_x rfl (Nat.le_of_ble_eq_true rfl) (by decide) rfl ?_
    refine zz_astore dX4_set_5 (by decide) ?_
    refine zz_aload_n dX4_set_7 rfl ?_
    refine zz_iload_n dX4_set_8 rfl ?_
    refine zz_callV (ci := 4) (x_ce_x hn h) dX4_set_9 zw_m_X4_66 wYX4_checkElement wDX4_checkElement rfl (by omega) px_x rfl (Nat.le_of_ble_eq_true rfl) (by decide) (by omega) (by omega) rfl (fun v9 τ9 h9 => by cases h9.1) (fun E9 τ9 h9 => ?_)
    obtain ⟨h91, rfl⟩ := h9
    cases h91
    exact ⟨rfl, rfl⟩
set_option maxHeartbeats 1000000 in
set_option maxRecDepth 20000 in
theorem x_set_3 {r i : Nat} (hr : r < 4) (hi : i < n) (hn : n ≤ 80) {u : Int32} (h : isE n u = false) (z : Int32) : zz_C mX4_set 7 1 6 [.ref 52, .int (nI r), .int (nI i), .int u, .int z] (px El Lo Hi BL BH Od Ls (nI n) T) (fun o τ => o = .inr "java/lang/IndexOutOfBoundsException" ∧ τ = px El Lo Hi BL BH Od Ls (nI n) T) := by
  · refine zz_start wPX4_set rfl rfl (Nat.le_of_ble_eq_true rfl) ?_
    refine zz_aload_n dX4_set_0 rfl ?_
    refine zz_iload_n dX4_set_1 rfl ?_
    refine zz_callV1 (ci := 4) (x_ra_v hr) dX4_set_2 zw_m_X4_55 wYX4_relationAt wDX4_relationAt rfl (by omega) px_x rfl (Nat.le_of_ble_eq_true rfl) (by decide) rfl ?_
    refine zz_astore dX4_set_5 (by decide) ?_
    refine zz_aload_n dX4_set_7 rfl ?_
    refine zz_iload_n dX4_set_8 rfl ?_
    refine zz_callV0 (ci := 4) (x_ce_v hi hn) dX4_set_9 zw_m_X4_66 wYX4_checkElement wDX4_checkElement rfl (by omega) px_x rfl (Nat.le_of_ble_eq_true rfl) (by decide) rfl ?_
    refine zz_aload_n dX4_set_12 rfl ?_
    refine zz_iload_n dX4_set_13 rfl ?_
    refine zz_callV (ci := 4) (x_ce_x hn h) dX4_set_14 zw_m_X4_66 wYX4_checkElement wDX4_checkElement rfl (by omega) px_x rfl (Nat.le_of_ble_eq_true rfl) (by decide) (by omega) (by omega) rfl (fun v9 τ9 h9 => by cases h9.1) (fun E9 τ9 h9 => ?_)
    obtain ⟨h91, rfl⟩ := h9
    cases h91
    exact ⟨rfl, rfl⟩
set_option maxHeartbeats 1000000 in
set_option maxRecDepth 20000 in
theorem x_setRange_v {r i a e : Nat} (hr : r < 4) (hi : i < n) (hae : a ≤ e) (hen : e ≤ n) (b : Bool) (hI : cI n El Lo Hi BL BH R mk) : zz_C mX4_setRange 7 1 6 [.ref 52, .int (nI r), .int (nI i), .int (nI a), .int (nI e), .int (zB b)] (px El Lo Hi BL BH Od Ls (nI n) T) (xQ n (va_up R r (va_up (R r) i (ptS (R r i) a e b))) mk T (.inl (some (.int (nI (cnt (ptS (R r i) a e b) n)))))) := by
  have hn := cI_n hI
  have hS := ls_put (cI_R hI hr i hi) (a := a) (e := e) hen hn (by omega) b
  · refine zz_start wPX4_setRange rfl rfl (Nat.le_of_ble_eq_true rfl) ?_
    refine zz_aload_n dX4_setRange_0 rfl ?_
    refine zz_iload_n dX4_setRange_1 rfl ?_
    refine zz_callV1 (ci := 4) (x_ra_v hr) dX4_setRange_2 zw_m_X4_55 wYX4_relationAt wDX4_relationAt rfl (by omega) px_x rfl (Nat.le_of_ble_eq_true rfl) (by decide) rfl ?_
    refine zz_astore dX4_setRange_5 (by decide) ?_
    refine zz_aload_n dX4_setRange_7 rfl ?_
    refine zz_iload_n dX4_setRange_8 rfl ?_
    refine zz_callV0 (ci := 4) (x_ce_v hi hn) dX4_setRange_9 zw_m_X4_66 wYX4_checkElement wDX4_checkElement rfl (by omega) px_x rfl (Nat.le_of_ble_eq_true rfl) (by decide) rfl ?_
    refine zz_aload_n dX4_setRange_12 rfl ?_
    refine zz_iload_n dX4_setRange_13 rfl ?_
    refine zz_iload dX4_setRange_14 rfl ?_
    refine zz_callV0 (ci := 4) (x_cr_v hae hen hn) dX4_setRange_16 zw_m_X4_84 wYX4_checkRange wDX4_checkRange rfl (by omega) px_x rfl (Nat.le_of_ble_eq_true rfl) (by decide) rfl ?_
    refine zz_aload dX4_setRange_19 rfl ?_
    refine zz_iload_n dX4_setRange_21 rfl ?_
    refine zz_aload_n dX4_setRange_22 rfl ?_
    refine zz_get (ci := 4) (j := 3) zz_inX4 rfl zw_f_X4_27 rfl (by decide) dX4_setRange_23 (by omega) px_x rfl ?_
    refine zz_callV0 (ci := 1) (c_rowInto (show r < 8 by omega) (show i < 80 by omega) (p := 33) (by omega)) dX4_setRange_26 zw_m_X4_73 wYX1_rowInto wDX1_rowInto rfl (by omega) (px_rel (by omega)) rfl (Nat.le_of_ble_eq_true rfl) (by decide) rfl ?_
    refine zz_aload_n dX4_setRange_29 rfl ?_
    refine zz_get (ci := 4) (j := 3) zz_inX4 rfl zw_f_X4_27 rfl (by decide) dX4_setRange_30 (by omega) px_x rfl ?_
    refine zz_iload_n dX4_setRange_33 rfl ?_
    refine zz_iload dX4_setRange_34 rfl ?_
    refine zz_iload dX4_setRange_36 rfl ?_
    refine zz_callV0 (ci := 0) (c_putRange (by omega) _ _ b) dX4_setRange_38 zw_m_X4_77 wYX0_putRange wDX0_putRange rfl (by omega) (px_bit (by omega)) rfl (Nat.le_of_ble_eq_true rfl) (by decide) rfl ?_
    refine zz_aload dX4_setRange_41 rfl ?_
    refine zz_iload_n dX4_setRange_43 rfl ?_
    refine zz_aload_n dX4_setRange_44 rfl ?_
    refine zz_get (ci := 4) (j := 3) zz_inX4 rfl zw_f_X4_27 rfl (by decide) dX4_setRange_45 (by omega) px_x rfl ?_
    refine zz_callV0 (ci := 1) (c_putRow (show r < 8 by omega) (show i < 80 by omega) (p := 33) (by omega)) dX4_setRange_48 zw_m_X4_81 wYX1_putRow wDX1_putRow rfl (by omega) (px_rel (by omega)) rfl (Nat.le_of_ble_eq_true rfl) (by decide) rfl ?_
    refine zz_aload dX4_setRange_51 rfl ?_
    refine zz_iload_n dX4_setRange_53 rfl ?_
    refine zz_callV1 (ci := 1) (c_sizeOf (show r < 8 by omega) (show i < 80 by omega)) dX4_setRange_54 zw_m_X4_88 wYX1_sizeOf wDX1_sizeOf rfl (by omega) (px_rel (by omega)) rfl (Nat.le_of_ble_eq_true rfl) (by decide) rfl ?_
    refine zz_iret dX4_setRange_57 rfl ?_
    simp only [up_at, up_up]
    refine xQ_i (by rw [ls_szr hn hS]) (cI_up hI (lk_row (cI_R hI hr) hS) (up_ne _ _ (by omega)) (up_ne _ _ (by omega)))
set_option maxHeartbeats 1000000 in
set_option maxRecDepth 20000 in
theorem x_setRange_1 {v : Int32} (h : isR v = false) (w x y z : Int32) : zz_C mX4_setRange 7 1 6 [.ref 52, .int v, .int w, .int x, .int y, .int z] (px El Lo Hi BL BH Od Ls (nI n) T) (fun o τ => o = .inr "java/lang/IndexOutOfBoundsException" ∧ τ = px El Lo Hi BL BH Od Ls (nI n) T) := by
  · refine zz_start wPX4_setRange rfl rfl (Nat.le_of_ble_eq_true rfl) ?_
    refine zz_aload_n dX4_setRange_0 rfl ?_
    refine zz_iload_n dX4_setRange_1 rfl ?_
    refine zz_callV (ci := 4) (x_ra_x h) dX4_setRange_2 zw_m_X4_55 wYX4_relationAt wDX4_relationAt rfl (by omega) px_x rfl (Nat.le_of_ble_eq_true rfl) (by decide) (by omega) (by omega) rfl (fun v9 τ9 h9 => by cases h9.1) (fun E9 τ9 h9 => ?_)
    obtain ⟨h91, rfl⟩ := h9
    cases h91
    exact ⟨rfl, rfl⟩
set_option maxHeartbeats 1000000 in
set_option maxRecDepth 20000 in
theorem x_setRange_2 {r : Nat} (hr : r < 4) (hn : n ≤ 80) {w : Int32} (h : isE n w = false) (x y z : Int32) : zz_C mX4_setRange 7 1 6 [.ref 52, .int (nI r), .int w, .int x, .int y, .int z] (px El Lo Hi BL BH Od Ls (nI n) T) (fun o τ => o = .inr "java/lang/IndexOutOfBoundsException" ∧ τ = px El Lo Hi BL BH Od Ls (nI n) T) := by
  · refine zz_start wPX4_setRange rfl rfl (Nat.le_of_ble_eq_true rfl) ?_
    refine zz_aload_n dX4_setRange_0 rfl ?_
    refine zz_iload_n dX4_setRange_1 rfl ?_
    refine zz_callV1 (ci := 4) (x_ra_v hr) dX4_setRange_2 zw_m_X4_55 wYX4_relationAt wDX4_relationAt rfl (by omega) px_x rfl (Nat.le_of_ble_eq_true rfl) (by decide) rfl ?_
    refine zz_astore dX4_setRange_5 (by decide) ?_
    refine zz_aload_n dX4_setRange_7 rfl ?_
    refine zz_iload_n dX4_setRange_8 rfl ?_
    refine zz_callV (ci := 4) (x_ce_x hn h) dX4_setRange_9 zw_m_X4_66 wYX4_checkElement wDX4_checkElement rfl (by omega) px_x rfl (Nat.le_of_ble_eq_true rfl) (by decide) (by omega) (by omega) rfl (fun v9 τ9 h9 => by cases h9.1) (fun E9 τ9 h9 => ?_)
    obtain ⟨h91, rfl⟩ := h9
    cases h91
    exact ⟨rfl, rfl⟩
set_option maxHeartbeats 1000000 in
set_option maxRecDepth 20000 in
theorem x_setRange_3 {r i : Nat} (hr : r < 4) (hi : i < n) (hn : n ≤ 80) {x y : Int32} (h : isG n x y = false) (z : Int32) : zz_C mX4_setRange 7 1 6 [.ref 52, .int (nI r), .int (nI i), .int x, .int y, .int z] (px El Lo Hi BL BH Od Ls (nI n) T) (fun o τ => o = .inr "java/lang/IndexOutOfBoundsException" ∧ τ = px El Lo Hi BL BH Od Ls (nI n) T) := by
  · refine zz_start wPX4_setRange rfl rfl (Nat.le_of_ble_eq_true rfl) ?_
    refine zz_aload_n dX4_setRange_0 rfl ?_
    refine zz_iload_n dX4_setRange_1 rfl ?_
    refine zz_callV1 (ci := 4) (x_ra_v hr) dX4_setRange_2 zw_m_X4_55 wYX4_relationAt wDX4_relationAt rfl (by omega) px_x rfl (Nat.le_of_ble_eq_true rfl) (by decide) rfl ?_
    refine zz_astore dX4_setRange_5 (by decide) ?_
    refine zz_aload_n dX4_setRange_7 rfl ?_
    refine zz_iload_n dX4_setRange_8 rfl ?_
    refine zz_callV0 (ci := 4) (x_ce_v hi hn) dX4_setRange_9 zw_m_X4_66 wYX4_checkElement wDX4_checkElement rfl (by omega) px_x rfl (Nat.le_of_ble_eq_true rfl) (by decide) rfl ?_
    refine zz_aload_n dX4_setRange_12 rfl ?_
    refine zz_iload_n dX4_setRange_13 rfl ?_
    refine zz_iload dX4_setRange_14 rfl ?_
    refine zz_callV (ci := 4) (x_cr_x h) dX4_setRange_16 zw_m_X4_84 wYX4_checkRange wDX4_checkRange rfl (by omega) px_x rfl (Nat.le_of_ble_eq_true rfl) (by decide) (by omega) (by omega) rfl (fun v9 τ9 h9 => by cases h9.1) (fun E9 τ9 h9 => ?_)
    obtain ⟨h91, rfl⟩ := h9
    cases h91
    exact ⟨rfl, rfl⟩
set_option maxHeartbeats 1000000 in
set_option maxRecDepth 20000 in
theorem x_flipRange_v {r i a e : Nat} (hr : r < 4) (hi : i < n) (hae : a ≤ e) (hen : e ≤ n) (hI : cI n El Lo Hi BL BH R mk) : zz_C mX4_flipRange 7 1 6 [.ref 52, .int (nI r), .int (nI i), .int (nI a), .int (nI e)] (px El Lo Hi BL BH Od Ls (nI n) T) (xQ n (va_up R r (va_up (R r) i (flS (R r i) a e))) mk T (.inl (some (.int (nI (cnt (flS (R r i) a e) n)))))) := by
  have hn := cI_n hI
  have hS := ls_flip (cI_R hI hr i hi) (a := a) (e := e) hen hn (by omega)
  · refine zz_start wPX4_flipRange rfl rfl (Nat.le_of_ble_eq_true rfl) ?_
    refine zz_aload_n dX4_flipRange_0 rfl ?_
    refine zz_iload_n dX4_flipRange_1 rfl ?_
    refine zz_callV1 (ci := 4) (x_ra_v hr) dX4_flipRange_2 zw_m_X4_55 wYX4_relationAt wDX4_relationAt rfl (by omega) px_x rfl (Nat.le_of_ble_eq_true rfl) (by decide) rfl ?_
    refine zz_astore dX4_flipRange_5 (by decide) ?_
    refine zz_aload_n dX4_flipRange_7 rfl ?_
    refine zz_iload_n dX4_flipRange_8 rfl ?_
    refine zz_callV0 (ci := 4) (x_ce_v hi hn) dX4_flipRange_9 zw_m_X4_66 wYX4_checkElement wDX4_checkElement rfl (by omega) px_x rfl (Nat.le_of_ble_eq_true rfl) (by decide) rfl ?_
    refine zz_aload_n dX4_flipRange_12 rfl ?_
    refine zz_iload_n dX4_flipRange_13 rfl ?_
    refine zz_iload dX4_flipRange_14 rfl ?_
    refine zz_callV0 (ci := 4) (x_cr_v hae hen hn) dX4_flipRange_16 zw_m_X4_84 wYX4_checkRange wDX4_checkRange rfl (by omega) px_x rfl (Nat.le_of_ble_eq_true rfl) (by decide) rfl ?_
    refine zz_aload dX4_flipRange_19 rfl ?_
    refine zz_iload_n dX4_flipRange_21 rfl ?_
    refine zz_aload_n dX4_flipRange_22 rfl ?_
    refine zz_get (ci := 4) (j := 3) zz_inX4 rfl zw_f_X4_27 rfl (by decide) dX4_flipRange_23 (by omega) px_x rfl ?_
    refine zz_callV0 (ci := 1) (c_rowInto (show r < 8 by omega) (show i < 80 by omega) (p := 33) (by omega)) dX4_flipRange_26 zw_m_X4_73 wYX1_rowInto wDX1_rowInto rfl (by omega) (px_rel (by omega)) rfl (Nat.le_of_ble_eq_true rfl) (by decide) rfl ?_
    refine zz_aload_n dX4_flipRange_29 rfl ?_
    refine zz_get (ci := 4) (j := 3) zz_inX4 rfl zw_f_X4_27 rfl (by decide) dX4_flipRange_30 (by omega) px_x rfl ?_
    refine zz_iload_n dX4_flipRange_33 rfl ?_
    refine zz_iload dX4_flipRange_34 rfl ?_
    refine zz_callV0 (ci := 0) (c_invert (by omega) _ _) dX4_flipRange_36 zw_m_X4_92 wYX0_invert wDX0_invert rfl (by omega) (px_bit (by omega)) rfl (Nat.le_of_ble_eq_true rfl) (by decide) rfl ?_
    refine zz_aload dX4_flipRange_39 rfl ?_
    refine zz_iload_n dX4_flipRange_41 rfl ?_
    refine zz_aload_n dX4_flipRange_42 rfl ?_
    refine zz_get (ci := 4) (j := 3) zz_inX4 rfl zw_f_X4_27 rfl (by decide) dX4_flipRange_43 (by omega) px_x rfl ?_
    refine zz_callV0 (ci := 1) (c_putRow (show r < 8 by omega) (show i < 80 by omega) (p := 33) (by omega)) dX4_flipRange_46 zw_m_X4_81 wYX1_putRow wDX1_putRow rfl (by omega) (px_rel (by omega)) rfl (Nat.le_of_ble_eq_true rfl) (by decide) rfl ?_
    refine zz_aload dX4_flipRange_49 rfl ?_
    refine zz_iload_n dX4_flipRange_51 rfl ?_
    refine zz_callV1 (ci := 1) (c_sizeOf (show r < 8 by omega) (show i < 80 by omega)) dX4_flipRange_52 zw_m_X4_88 wYX1_sizeOf wDX1_sizeOf rfl (by omega) (px_rel (by omega)) rfl (Nat.le_of_ble_eq_true rfl) (by decide) rfl ?_
    refine zz_iret dX4_flipRange_55 rfl ?_
    simp only [up_at, up_up]
    refine xQ_i (by rw [ls_szr hn hS]) (cI_up hI (lk_row (cI_R hI hr) hS) (up_ne _ _ (by omega)) (up_ne _ _ (by omega)))
set_option maxHeartbeats 1000000 in
set_option maxRecDepth 20000 in
theorem x_flipRange_1 {v : Int32} (h : isR v = false) (w x y : Int32) : zz_C mX4_flipRange 7 1 6 [.ref 52, .int v, .int w, .int x, .int y] (px El Lo Hi BL BH Od Ls (nI n) T) (fun o τ => o = .inr "java/lang/IndexOutOfBoundsException" ∧ τ = px El Lo Hi BL BH Od Ls (nI n) T) := by
  · refine zz_start wPX4_flipRange rfl rfl (Nat.le_of_ble_eq_true rfl) ?_
    refine zz_aload_n dX4_flipRange_0 rfl ?_
    refine zz_iload_n dX4_flipRange_1 rfl ?_
    refine zz_callV (ci := 4) (x_ra_x h) dX4_flipRange_2 zw_m_X4_55 wYX4_relationAt wDX4_relationAt rfl (by omega) px_x rfl (Nat.le_of_ble_eq_true rfl) (by decide) (by omega) (by omega) rfl (fun v9 τ9 h9 => by cases h9.1) (fun E9 τ9 h9 => ?_)
    obtain ⟨h91, rfl⟩ := h9
    cases h91
    exact ⟨rfl, rfl⟩
set_option maxHeartbeats 1000000 in
set_option maxRecDepth 20000 in
theorem x_flipRange_2 {r : Nat} (hr : r < 4) (hn : n ≤ 80) {w : Int32} (h : isE n w = false) (x y : Int32) : zz_C mX4_flipRange 7 1 6 [.ref 52, .int (nI r), .int w, .int x, .int y] (px El Lo Hi BL BH Od Ls (nI n) T) (fun o τ => o = .inr "java/lang/IndexOutOfBoundsException" ∧ τ = px El Lo Hi BL BH Od Ls (nI n) T) := by
  · refine zz_start wPX4_flipRange rfl rfl (Nat.le_of_ble_eq_true rfl) ?_
    refine zz_aload_n dX4_flipRange_0 rfl ?_
    refine zz_iload_n dX4_flipRange_1 rfl ?_
    refine zz_callV1 (ci := 4) (x_ra_v hr) dX4_flipRange_2 zw_m_X4_55 wYX4_relationAt wDX4_relationAt rfl (by omega) px_x rfl (Nat.le_of_ble_eq_true rfl) (by decide) rfl ?_
    refine zz_astore dX4_flipRange_5 (by decide) ?_
    refine zz_aload_n dX4_flipRange_7 rfl ?_
    refine zz_iload_n dX4_flipRange_8 rfl ?_
    refine zz_callV (ci := 4) (x_ce_x hn h) dX4_flipRange_9 zw_m_X4_66 wYX4_checkElement wDX4_checkElement rfl (by omega) px_x rfl (Nat.le_of_ble_eq_true rfl) (by decide) (by omega) (by omega) rfl (fun v9 τ9 h9 => by cases h9.1) (fun E9 τ9 h9 => ?_)
    obtain ⟨h91, rfl⟩ := h9
    cases h91
    exact ⟨rfl, rfl⟩
set_option maxHeartbeats 1000000 in
set_option maxRecDepth 20000 in
theorem x_flipRange_3 {r i : Nat} (hr : r < 4) (hi : i < n) (hn : n ≤ 80) {x y : Int32} (h : isG n x y = false) : zz_C mX4_flipRange 7 1 6 [.ref 52, .int (nI r), .int (nI i), .int x, .int y] (px El Lo Hi BL BH Od Ls (nI n) T) (fun o τ => o = .inr "java/lang/IndexOutOfBoundsException" ∧ τ = px El Lo Hi BL BH Od Ls (nI n) T) := by
  · refine zz_start wPX4_flipRange rfl rfl (Nat.le_of_ble_eq_true rfl) ?_
    refine zz_aload_n dX4_flipRange_0 rfl ?_
    refine zz_iload_n dX4_flipRange_1 rfl ?_
    refine zz_callV1 (ci := 4) (x_ra_v hr) dX4_flipRange_2 zw_m_X4_55 wYX4_relationAt wDX4_relationAt rfl (by omega) px_x rfl (Nat.le_of_ble_eq_true rfl) (by decide) rfl ?_
    refine zz_astore dX4_flipRange_5 (by decide) ?_
    refine zz_aload_n dX4_flipRange_7 rfl ?_
    refine zz_iload_n dX4_flipRange_8 rfl ?_
    refine zz_callV0 (ci := 4) (x_ce_v hi hn) dX4_flipRange_9 zw_m_X4_66 wYX4_checkElement wDX4_checkElement rfl (by omega) px_x rfl (Nat.le_of_ble_eq_true rfl) (by decide) rfl ?_
    refine zz_aload_n dX4_flipRange_12 rfl ?_
    refine zz_iload_n dX4_flipRange_13 rfl ?_
    refine zz_iload dX4_flipRange_14 rfl ?_
    refine zz_callV (ci := 4) (x_cr_x h) dX4_flipRange_16 zw_m_X4_84 wYX4_checkRange wDX4_checkRange rfl (by omega) px_x rfl (Nat.le_of_ble_eq_true rfl) (by decide) (by omega) (by omega) rfl (fun v9 τ9 h9 => by cases h9.1) (fun E9 τ9 h9 => ?_)
    obtain ⟨h91, rfl⟩ := h9
    cases h91
    exact ⟨rfl, rfl⟩
set_option maxHeartbeats 1000000 in
set_option maxRecDepth 20000 in
theorem x_setRow_v {r i : Nat} (hr : r < 4) (hi : i < n) (bits : Int64) (hI : cI n El Lo Hi BL BH R mk) : zz_C mX4_setRow 7 1 6 [.ref 52, .int (nI r), .int (nI i), .long bits] (px El Lo Hi BL BH Od Ls (nI n) T) (xQ n (va_up R r (va_up (R r) i (lbit bits))) mk T (.inl (some (.int (nI (cnt (lbit bits) n)))))) := by
  have hn := cI_n hI
  have hS := ls_low (n := n) (x := bits) hn
  · refine zz_start wPX4_setRow rfl rfl (Nat.le_of_ble_eq_true rfl) ?_
    refine zz_aload_n dX4_setRow_0 rfl ?_
    refine zz_iload_n dX4_setRow_1 rfl ?_
    refine zz_callV1 (ci := 4) (x_ra_v hr) dX4_setRow_2 zw_m_X4_55 wYX4_relationAt wDX4_relationAt rfl (by omega) px_x rfl (Nat.le_of_ble_eq_true rfl) (by decide) rfl ?_
    refine zz_astore dX4_setRow_5 (by decide) ?_
    refine zz_aload_n dX4_setRow_7 rfl ?_
    refine zz_iload_n dX4_setRow_8 rfl ?_
    refine zz_callV0 (ci := 4) (x_ce_v hi hn) dX4_setRow_9 zw_m_X4_66 wYX4_checkElement wDX4_checkElement rfl (by omega) px_x rfl (Nat.le_of_ble_eq_true rfl) (by decide) rfl ?_
    refine zz_aload_n dX4_setRow_12 rfl ?_
    refine zz_get (ci := 4) (j := 3) zz_inX4 rfl zw_f_X4_27 rfl (by decide) dX4_setRow_13 (by omega) px_x rfl ?_
    refine zz_callV0 (ci := 0) (c_clear (by omega)) dX4_setRow_16 zw_m_X4_63 wYX0_clear wDX0_clear rfl (by omega) (px_bit (by omega)) rfl (Nat.le_of_ble_eq_true rfl) (by decide) rfl ?_
    refine zz_aload_n dX4_setRow_19 rfl ?_
    refine zz_get (ci := 4) (j := 3) zz_inX4 rfl zw_f_X4_27 rfl (by decide) dX4_setRow_20 (by omega) px_x rfl ?_
    refine zz_lload_n dX4_setRow_23 rfl ?_
    refine zz_iconst (v := 0) dX4_setRow_24 (by decide) ?_
    refine zz_aload_n dX4_setRow_25 rfl ?_
    refine zz_get (ci := 4) (j := 0) zz_inX4 rfl zw_f_X4_9 rfl (by decide) dX4_setRow_26 (by omega) px_x rfl ?_
    refine zz_callS1 (c_lowRange _ _) dX4_setRow_29 zw_m_X4_95 wYX0_lowRange wDX0_lowRange rfl (Nat.le_of_ble_eq_true rfl) (by decide) rfl ?_
    refine zz_land dX4_setRow_32 ?_
    refine zp_bl zw_f_X4_99 dX4_setRow_33 (by omega) ?_
    refine zz_aload dX4_setRow_36 rfl ?_
    refine zz_iload_n dX4_setRow_38 rfl ?_
    refine zz_aload_n dX4_setRow_39 rfl ?_
    refine zz_get (ci := 4) (j := 3) zz_inX4 rfl zw_f_X4_27 rfl (by decide) dX4_setRow_40 (by omega) px_x rfl ?_
    refine zz_callV0 (ci := 1) (c_putRow (show r < 8 by omega) (show i < 80 by omega) (p := 33) (by omega)) dX4_setRow_43 zw_m_X4_81 wYX1_putRow wDX1_putRow rfl (by omega) (px_rel (by omega)) rfl (Nat.le_of_ble_eq_true rfl) (by decide) rfl ?_
    refine zz_aload dX4_setRow_46 rfl ?_
    refine zz_iload_n dX4_setRow_48 rfl ?_
    refine zz_callV1 (ci := 1) (c_sizeOf (show r < 8 by omega) (show i < 80 by omega)) dX4_setRow_49 zw_m_X4_88 wYX1_sizeOf wDX1_sizeOf rfl (by omega) (px_rel (by omega)) rfl (Nat.le_of_ble_eq_true rfl) (by decide) rfl ?_
    refine zz_iret dX4_setRow_52 rfl ?_
    simp only [up_at, up_up]
    refine xQ_i (by rw [ls_szr hn hS]) (cI_up hI (lk_row (cI_R hI hr) hS) (up_ne _ _ (by omega)) (up_ne _ _ (by omega)))
set_option maxHeartbeats 1000000 in
set_option maxRecDepth 20000 in
theorem x_setRow_1 {v : Int32} (h : isR v = false) (w : Int32) (z : Int64) : zz_C mX4_setRow 7 1 6 [.ref 52, .int v, .int w, .long z] (px El Lo Hi BL BH Od Ls (nI n) T) (fun o τ => o = .inr "java/lang/IndexOutOfBoundsException" ∧ τ = px El Lo Hi BL BH Od Ls (nI n) T) := by
  · refine zz_start wPX4_setRow rfl rfl (Nat.le_of_ble_eq_true rfl) ?_
    refine zz_aload_n dX4_setRow_0 rfl ?_
    refine zz_iload_n dX4_setRow_1 rfl ?_
    refine zz_callV (ci := 4) (x_ra_x h) dX4_setRow_2 zw_m_X4_55 wYX4_relationAt wDX4_relationAt rfl (by omega) px_x rfl (Nat.le_of_ble_eq_true rfl) (by decide) (by omega) (by omega) rfl (fun v9 τ9 h9 => by cases h9.1) (fun E9 τ9 h9 => ?_)
    obtain ⟨h91, rfl⟩ := h9
    cases h91
    exact ⟨rfl, rfl⟩
set_option maxHeartbeats 1000000 in
set_option maxRecDepth 20000 in
theorem x_setRow_2 {r : Nat} (hr : r < 4) (hn : n ≤ 80) {w : Int32} (h : isE n w = false) (z : Int64) : zz_C mX4_setRow 7 1 6 [.ref 52, .int (nI r), .int w, .long z] (px El Lo Hi BL BH Od Ls (nI n) T) (fun o τ => o = .inr "java/lang/IndexOutOfBoundsException" ∧ τ = px El Lo Hi BL BH Od Ls (nI n) T) := by
  · refine zz_start wPX4_setRow rfl rfl (Nat.le_of_ble_eq_true rfl) ?_
    refine zz_aload_n dX4_setRow_0 rfl ?_
    refine zz_iload_n dX4_setRow_1 rfl ?_
    refine zz_callV1 (ci := 4) (x_ra_v hr) dX4_setRow_2 zw_m_X4_55 wYX4_relationAt wDX4_relationAt rfl (by omega) px_x rfl (Nat.le_of_ble_eq_true rfl) (by decide) rfl ?_
    refine zz_astore dX4_setRow_5 (by decide) ?_
    refine zz_aload_n dX4_setRow_7 rfl ?_
    refine zz_iload_n dX4_setRow_8 rfl ?_
    refine zz_callV (ci := 4) (x_ce_x hn h) dX4_setRow_9 zw_m_X4_66 wYX4_checkElement wDX4_checkElement rfl (by omega) px_x rfl (Nat.le_of_ble_eq_true rfl) (by decide) (by omega) (by omega) rfl (fun v9 τ9 h9 => by cases h9.1) (fun E9 τ9 h9 => ?_)
    obtain ⟨h91, rfl⟩ := h9
    cases h91
    exact ⟨rfl, rfl⟩
set_option maxHeartbeats 1000000 in
set_option maxRecDepth 20000 in
theorem xl_chain {r : Nat} (hr : r < 4) (f : Nat → Bool) (hI : cI n El Lo Hi BL BH (rf f) mk) : ∀ (m i : Nat), i + m = n - 1 → ∀ (A B : Nat → Int64), lk A B n (rf (chn f r i) r) → zz_E mX4_chain none 7 1 6 (xQ n (va_up (rf f) r (rf (chn f r (n - 1)) r)) mk T (.inl (some (.int (nI (sm (fun j => cnt ((rf (chn f r (n - 1)) r) j) n) n)))))) 8 [(3, .int (nI i)), (2, .ref r), (0, .ref 52), (1, .int (nI r))] [] (px El (va_up Lo r A) (va_up Hi r B) BL BH Od Ls (nI n) T) := by
  intro m
  induction m with
  | zero =>
    intro i hi A B hA
    have hn := cI_n hI
    have hi : i = n - 1 := by omega
    subst hi
    refine zz_iload_n dX4_chain_8 rfl ?_
    refine zz_iconst (v := 1) dX4_chain_9 (by decide) ?_
    refine zz_iadd dX4_chain_10 ?_
    refine zz_tope (y := nI (n - 1 + 1)) (nI_1 _) ?_
    refine zz_aload_n dX4_chain_11 rfl ?_
    refine zz_get (ci := 4) (j := 0) zz_inX4 rfl zw_f_X4_9 rfl (by decide) dX4_chain_12 (by omega) px_x rfl ?_
    refine zz_icmp_ge (tgt := 32) dX4_chain_15 (by decide) (fun _ => ?_) (fun h => absurd (nI_le (by omega) (by omega)) h)
    refine zz_aload_n dX4_chain_32 rfl ?_
    refine zz_callV1 (ci := 1) (c_pairs (show r < 8 by omega) (cI_E hI hr) hn) dX4_chain_33 zw_m_X4_106 wYX1_pairs wDX1_pairs rfl (by omega) (px_rel (by omega)) rfl (Nat.le_of_ble_eq_true rfl) (by decide) rfl ?_
    refine zz_iret dX4_chain_36 rfl ?_
    simp only [up_at]
    exact xQ_i (by rw [lk_prs hn hA n (Nat.le_refl n)]) (cI_up hI hA rfl rfl)
  | succ m ih =>
    intro i hi A B hA
    have hn := cI_n hI
    refine zz_iload_n dX4_chain_8 rfl ?_
    refine zz_iconst (v := 1) dX4_chain_9 (by decide) ?_
    refine zz_iadd dX4_chain_10 ?_
    refine zz_tope (y := nI (i + 1)) (nI_1 _) ?_
    refine zz_aload_n dX4_chain_11 rfl ?_
    refine zz_get (ci := 4) (j := 0) zz_inX4 rfl zw_f_X4_9 rfl (by decide) dX4_chain_12 (by omega) px_x rfl ?_
    refine zz_icmp_ge (tgt := 32) dX4_chain_15 (by decide) (fun h => absurd h (nI_ge (by omega) (by omega))) (fun _ => ?_)
    refine zz_aload_n dX4_chain_18 rfl ?_
    refine zz_iload_n dX4_chain_19 rfl ?_
    refine zz_iload_n dX4_chain_20 rfl ?_
    refine zz_iconst (v := 1) dX4_chain_21 (by decide) ?_
    refine zz_iadd dX4_chain_22 ?_
    refine zz_tope (y := nI (i + 1)) (nI_1 _) ?_
    refine zz_callV0 (ci := 1) (c_join (show r < 8 by omega) (show i < 80 by omega) _) dX4_chain_23 zw_m_X4_103 wYX1_join wDX1_join rfl (by omega) (px_rel (by omega)) rfl (Nat.le_of_ble_eq_true rfl) (by decide) rfl ?_
    refine zz_iinc (v := nI (i + 1)) dX4_chain_26 rfl (nI_1 i) (by decide) ?_
    refine zz_goto (tgt := 8) dX4_chain_29 (by decide) ?_
    simp only [up_at, up_up]
    exact ih (i + 1) (by omega) _ _ (lk_join hA hn (show i < n by omega) (show i + 1 < n by omega))
set_option maxHeartbeats 1000000 in
set_option maxRecDepth 20000 in
theorem x_chain_v {r : Nat} (hr : r < 4) (f : Nat → Bool) (hI : cI n El Lo Hi BL BH (rf f) mk) : zz_C mX4_chain 7 1 6 [.ref 52, .int (nI r)] (px El Lo Hi BL BH Od Ls (nI n) T) (xQ n (va_up (rf f) r (rf (chn f r (n - 1)) r)) mk T (.inl (some (.int (nI (sm (fun j => cnt ((rf (chn f r (n - 1)) r) j) n) n)))))) := by
  · refine zz_start wPX4_chain rfl rfl (Nat.le_of_ble_eq_true rfl) ?_
    refine zz_aload_n dX4_chain_0 rfl ?_
    refine zz_iload_n dX4_chain_1 rfl ?_
    refine zz_callV1 (ci := 4) (x_ra_v hr) dX4_chain_2 zw_m_X4_55 wYX4_relationAt wDX4_relationAt rfl (by omega) px_x rfl (Nat.le_of_ble_eq_true rfl) (by decide) rfl ?_
    refine zz_astore_n dX4_chain_5 (by decide) ?_
    refine zz_iconst (v := 0) dX4_chain_6 (by decide) ?_
    refine zz_istore_n dX4_chain_7 (by decide) ?_
    have h9 := xl_chain (T := T) (Od := Od) (Ls := Ls) hr f hI (n - 1) 0 (by omega) (Lo r) (Hi r) (cI_R hI hr)
    rw [up_self, up_self] at h9
    exact h9
set_option maxHeartbeats 1000000 in
set_option maxRecDepth 20000 in
theorem x_chain_1 {v : Int32} (h : isR v = false) : zz_C mX4_chain 7 1 6 [.ref 52, .int v] (px El Lo Hi BL BH Od Ls (nI n) T) (fun o τ => o = .inr "java/lang/IndexOutOfBoundsException" ∧ τ = px El Lo Hi BL BH Od Ls (nI n) T) := by
  · refine zz_start wPX4_chain rfl rfl (Nat.le_of_ble_eq_true rfl) ?_
    refine zz_aload_n dX4_chain_0 rfl ?_
    refine zz_iload_n dX4_chain_1 rfl ?_
    refine zz_callV (ci := 4) (x_ra_x h) dX4_chain_2 zw_m_X4_55 wYX4_relationAt wDX4_relationAt rfl (by omega) px_x rfl (Nat.le_of_ble_eq_true rfl) (by decide) (by omega) (by omega) rfl (fun v9 τ9 h9 => by cases h9.1) (fun E9 τ9 h9 => ?_)
    obtain ⟨h91, rfl⟩ := h9
    cases h91
    exact ⟨rfl, rfl⟩
set_option maxHeartbeats 1000000 in
set_option maxRecDepth 20000 in
theorem xl_draw {r : Nat} (hr : r < 4) (f : Nat → Bool) (x : Int32) {w : Nat} (hw : w ≤ 200) (hI : cI n El Lo Hi BL BH (rf f) mk) : ∀ (m i : Nat), i + m = w → ∀ (A B : Nat → Int64), lk A B n (rf (drw n r f x i).1 r) → zz_E mX4_draw none 7 1 6 (xQ n (va_up (rf f) r (rf (drw n r f x w).1 r)) mk T (.inl (some (.int (nI (sm (fun j => cnt ((rf (drw n r f x w).1 r) j) n) n)))))) 34 [(6, .int (nI i)), (5, .int (drw n r f x i).2), (4, .ref r), (0, .ref 52), (1, .int (nI r)), (2, .int x), (3, .int (nI w))] [] (px El (va_up Lo r A) (va_up Hi r B) BL BH Od Ls (nI n) T) := by
  intro m
  induction m with
  | zero =>
    intro i hi A B hA
    have hn := cI_n hI
    have hi : i = w := by omega
    subst hi
    refine zz_iload dX4_draw_34 rfl ?_
    refine zz_iload_n dX4_draw_36 rfl ?_
    refine zz_icmp_ge (tgt := 81) dX4_draw_37 (by decide) (fun _ => ?_) (fun h => absurd (nI_le (by omega) (by omega)) h)
    refine zz_aload dX4_draw_81 rfl ?_
    refine zz_callV1 (ci := 1) (c_pairs (show r < 8 by omega) (cI_E hI hr) hn) dX4_draw_83 zw_m_X4_106 wYX1_pairs wDX1_pairs rfl (by omega) (px_rel (by omega)) rfl (Nat.le_of_ble_eq_true rfl) (by decide) rfl ?_
    refine zz_iret dX4_draw_86 rfl ?_
    simp only [up_at]
    exact xQ_i (by rw [lk_prs hn hA n (Nat.le_refl n)]) (cI_up hI hA rfl rfl)
  | succ m ih =>
    intro i hi A B hA
    have hn := cI_n hI
    have h1n := cI_1 hI
    refine zz_iload dX4_draw_34 rfl ?_
    refine zz_iload_n dX4_draw_36 rfl ?_
    refine zz_icmp_ge (tgt := 81) dX4_draw_37 (by decide) (fun h => absurd h (nI_ge (by omega) (by omega))) (fun _ => ?_)
    refine zz_iload dX4_draw_40 rfl ?_
    refine zz_callS1 (x_seedAfter _) dX4_draw_42 zw_m_X4_112 wYX4_seedAfter wDX4_seedAfter rfl (Nat.le_of_ble_eq_true rfl) (by decide) rfl ?_
    refine zz_istore dX4_draw_45 (by decide) ?_
    refine zz_aload_n dX4_draw_47 rfl ?_
    refine zz_iload dX4_draw_48 rfl ?_
    refine zz_callV1 (ci := 4) (x_elementOf h1n hn _) dX4_draw_50 zw_m_X4_115 wYX4_elementOf wDX4_elementOf rfl (by omega) px_x rfl (Nat.le_of_ble_eq_true rfl) (by decide) rfl ?_
    refine zz_istore dX4_draw_53 (by decide) ?_
    refine zz_iload dX4_draw_55 rfl ?_
    refine zz_callS1 (x_seedAfter _) dX4_draw_57 zw_m_X4_112 wYX4_seedAfter wDX4_seedAfter rfl (Nat.le_of_ble_eq_true rfl) (by decide) rfl ?_
    refine zz_istore dX4_draw_60 (by decide) ?_
    refine zz_aload dX4_draw_62 rfl ?_
    refine zz_iload dX4_draw_64 rfl ?_
    refine zz_aload_n dX4_draw_66 rfl ?_
    refine zz_iload dX4_draw_67 rfl ?_
    refine zz_callV1 (ci := 4) (x_elementOf h1n hn _) dX4_draw_69 zw_m_X4_115 wYX4_elementOf wDX4_elementOf rfl (by omega) px_x rfl (Nat.le_of_ble_eq_true rfl) (by decide) rfl ?_
    refine zz_callV0 (ci := 1) (c_join (show r < 8 by omega) (j := elN n (sdA (drw n r f x i).2)) (Nat.lt_of_lt_of_le (elN_lt h1n _) hn) _) dX4_draw_72 zw_m_X4_103 wYX1_join wDX1_join rfl (by omega) (px_rel (by omega)) rfl (Nat.le_of_ble_eq_true rfl) (by decide) rfl ?_
    refine zz_iinc (v := nI (i + 1)) dX4_draw_75 rfl (nI_1 i) (by decide) ?_
    refine zz_goto (tgt := 34) dX4_draw_78 (by decide) ?_
    simp only [up_at, up_up]
    refine zz_lvs (lv2 := [(6, .int (nI (i + 1))), (5, .int (sdA (sdA (drw n r f x i).2))), (4, .ref r), (0, .ref 52), (1, .int (nI r)), (2, .int x), (3, .int (nI w))]) (fun q hq => by simp only [List.mem_cons, List.not_mem_nil, or_false] at hq; rcases hq with rfl | rfl | rfl | rfl | rfl | rfl | rfl <;> simp [zz_up1, zz_up2, Value.category]) ?_
    exact ih (i + 1) (by omega) _ _ (lk_join hA hn (elN_lt h1n _) (elN_lt h1n _))
set_option maxHeartbeats 1000000 in
set_option maxRecDepth 20000 in
theorem x_draw_v {r : Nat} (hr : r < 4) (f : Nat → Bool) (x : Int32) {w : Nat} (hw : w ≤ 200) (hI : cI n El Lo Hi BL BH (rf f) mk) : zz_C mX4_draw 7 1 6 [.ref 52, .int (nI r), .int x, .int (nI w)] (px El Lo Hi BL BH Od Ls (nI n) T) (xQ n (va_up (rf f) r (rf (drw n r f x w).1 r)) mk T (.inl (some (.int (nI (sm (fun j => cnt ((rf (drw n r f x w).1 r) j) n) n)))))) := by
  · refine zz_start wPX4_draw rfl rfl (Nat.le_of_ble_eq_true rfl) ?_
    refine zz_aload_n dX4_draw_0 rfl ?_
    refine zz_iload_n dX4_draw_1 rfl ?_
    refine zz_callV1 (ci := 4) (x_ra_v hr) dX4_draw_2 zw_m_X4_55 wYX4_relationAt wDX4_relationAt rfl (by omega) px_x rfl (Nat.le_of_ble_eq_true rfl) (by decide) rfl ?_
    refine zz_astore dX4_draw_5 (by decide) ?_
    refine zz_iload_n dX4_draw_7 rfl ?_
    refine zz_if_lt (tgt := 18) dX4_draw_8 (by decide) (fun h => absurd h (nI_pos (by omega))) (fun _ => ?_)
    refine zz_iload_n dX4_draw_11 rfl ?_
    refine zz_sipush (v := 200) dX4_draw_12 (by decide) ?_
    refine zz_icmp_le (tgt := 28) dX4_draw_15 (by decide) (fun _ => ?_) (fun h => absurd (nI_le (b := 200) hw (by omega)) h)
    refine zz_iload_n dX4_draw_28 rfl ?_
    refine zz_istore dX4_draw_29 (by decide) ?_
    refine zz_iconst (v := 0) dX4_draw_31 (by decide) ?_
    refine zz_istore dX4_draw_32 (by decide) ?_
    have h9 := xl_draw (T := T) (Od := Od) (Ls := Ls) hr f x hw hI w 0 (by omega) (Lo r) (Hi r) (cI_R hI hr)
    rw [up_self, up_self] at h9
    exact h9
set_option maxHeartbeats 1000000 in
set_option maxRecDepth 20000 in
theorem x_draw_1 {v : Int32} (h : isR v = false) (x w : Int32) : zz_C mX4_draw 7 1 6 [.ref 52, .int v, .int x, .int w] (px El Lo Hi BL BH Od Ls (nI n) T) (fun o τ => o = .inr "java/lang/IndexOutOfBoundsException" ∧ τ = px El Lo Hi BL BH Od Ls (nI n) T) := by
  · refine zz_start wPX4_draw rfl rfl (Nat.le_of_ble_eq_true rfl) ?_
    refine zz_aload_n dX4_draw_0 rfl ?_
    refine zz_iload_n dX4_draw_1 rfl ?_
    refine zz_callV (ci := 4) (x_ra_x h) dX4_draw_2 zw_m_X4_55 wYX4_relationAt wDX4_relationAt rfl (by omega) px_x rfl (Nat.le_of_ble_eq_true rfl) (by decide) (by omega) (by omega) rfl (fun v9 τ9 h9 => by cases h9.1) (fun E9 τ9 h9 => ?_)
    obtain ⟨h91, rfl⟩ := h9
    cases h91
    exact ⟨rfl, rfl⟩
set_option maxHeartbeats 1000000 in
set_option maxRecDepth 20000 in
theorem x_draw_2 {r : Nat} (hr : r < 4) {w : Int32} (h : isM w = false) (x : Int32) : zz_C mX4_draw 7 1 6 [.ref 52, .int (nI r), .int x, .int w] (px El Lo Hi BL BH Od Ls (nI n) T) (fun o τ => o = .inr "java/lang/IllegalArgumentException" ∧ τ = px El Lo Hi BL BH Od Ls (nI n) T) := by
  rcases isM_x h with h1 | ⟨h1, h2⟩
  · refine zz_start wPX4_draw rfl rfl (Nat.le_of_ble_eq_true rfl) ?_
    refine zz_aload_n dX4_draw_0 rfl ?_
    refine zz_iload_n dX4_draw_1 rfl ?_
    refine zz_callV1 (ci := 4) (x_ra_v hr) dX4_draw_2 zw_m_X4_55 wYX4_relationAt wDX4_relationAt rfl (by omega) px_x rfl (Nat.le_of_ble_eq_true rfl) (by decide) rfl ?_
    refine zz_astore dX4_draw_5 (by decide) ?_
    refine zz_iload_n dX4_draw_7 rfl ?_
    refine zz_if_lt (tgt := 18) dX4_draw_8 (by decide) (fun _ => ?_) (fun q => absurd h1 q)
    refine zz_throw (cls := "java/lang/IllegalArgumentException") (text := "many is out of range") (by decide +kernel) rfl rfl (by decide +kernel) zw_l_X4_48 zw_n_java_lang_IllegalArgumentException zz_at_iae zz_bd_iae (by decide +kernel) dX4_draw_18 dX4_draw_21 dX4_draw_22 dX4_draw_24 dX4_draw_27 (by omega) (by omega) (by omega) (Nat.le_of_ble_eq_true rfl) ?_
    exact ⟨rfl, rfl⟩
  · refine zz_start wPX4_draw rfl rfl (Nat.le_of_ble_eq_true rfl) ?_
    refine zz_aload_n dX4_draw_0 rfl ?_
    refine zz_iload_n dX4_draw_1 rfl ?_
    refine zz_callV1 (ci := 4) (x_ra_v hr) dX4_draw_2 zw_m_X4_55 wYX4_relationAt wDX4_relationAt rfl (by omega) px_x rfl (Nat.le_of_ble_eq_true rfl) (by decide) rfl ?_
    refine zz_astore dX4_draw_5 (by decide) ?_
    refine zz_iload_n dX4_draw_7 rfl ?_
    refine zz_if_lt (tgt := 18) dX4_draw_8 (by decide) (fun q => absurd q h1) (fun _ => ?_)
    refine zz_iload_n dX4_draw_11 rfl ?_
    refine zz_sipush (v := 200) dX4_draw_12 (by decide) ?_
    refine zz_icmp_le (tgt := 28) dX4_draw_15 (by decide) (fun q => absurd q h2) (fun _ => ?_)
    refine zz_throw (cls := "java/lang/IllegalArgumentException") (text := "many is out of range") (by decide +kernel) rfl rfl (by decide +kernel) zw_l_X4_48 zw_n_java_lang_IllegalArgumentException zz_at_iae zz_bd_iae (by decide +kernel) dX4_draw_18 dX4_draw_21 dX4_draw_22 dX4_draw_24 dX4_draw_27 (by omega) (by omega) (by omega) (Nat.le_of_ble_eq_true rfl) ?_
    exact ⟨rfl, rfl⟩
end ZZX4B
