section ZZX4A
variable {El : Nat → Int32} {Lo Hi : Nat → Nat → Int64} {BL BH : Nat → Int64} {Od : Nat → Nat → Int32} {Ls : Nat → Int32} {n : Nat} {R : Nat → Nat → Nat → Bool} {mk : Nat → Bool} {T : zz_St}
set_option maxHeartbeats 1000000 in
set_option maxRecDepth 20000 in
theorem x_ra_v {r : Nat} (hr : r < 4) : zz_Dt mX4_relationAt 6 0 0 [.ref 52, .int (nI r)] (px El Lo Hi BL BH Od Ls (nI n) T) (.inl (some (.ref r))) (px El Lo Hi BL BH Od Ls (nI n) T) := by
  refine zz_start wPX4_relationAt rfl rfl (Nat.le_of_ble_eq_true rfl) ?_
  refine zz_iload_n dX4_relationAt_0 rfl ?_
  refine zz_if_lt (tgt := 22) dX4_relationAt_1 (by decide) (fun h => absurd h (nI_pos (by omega))) (fun _ => ?_)
  refine zz_iload_n dX4_relationAt_4 rfl ?_
  refine zz_aload_n dX4_relationAt_5 rfl ?_
  refine zz_get (ci := 4) (j := 1) zz_inX4 rfl zw_f_X4_15 rfl (by decide) dX4_relationAt_6 (by omega) px_x rfl ?_
  first | refine zz_alen1 (v := 80) dX4_relationAt_9 (by omega) (px_lo (by omega)) (by decide) ?_ | refine zz_alen1 (v := 80) dX4_relationAt_9 (by omega) (px_hi (by omega)) (by decide) ?_ | refine zz_alen0 (v := 80) dX4_relationAt_9 (by omega) (px_od (by omega)) (by decide) ?_ | refine zz_alen0 (v := 80) dX4_relationAt_9 (by omega) px_ls (by decide) ?_ | refine zz_alen3 (v := 4) dX4_relationAt_9 (by omega) px_rs (by decide) ?_
  refine zz_icmp_ge (tgt := 22) dX4_relationAt_10 (by decide) (fun h => absurd h (nI_ge (b := 4) (by omega) (by omega))) (fun _ => ?_)
  refine zz_aload_n dX4_relationAt_13 rfl ?_
  refine zz_get (ci := 4) (j := 1) zz_inX4 rfl zw_f_X4_15 rfl (by decide) dX4_relationAt_14 (by omega) px_x rfl ?_
  refine zz_iload_n dX4_relationAt_17 rfl ?_
  refine zz_aald (y := r) dX4_relationAt_18 (by omega) px_rs (vp_in_nI (by omega) (by omega)) (by rw [nI_clamp (by omega)]) ?_
  refine zz_ifnonnull (tgt := 32) dX4_relationAt_19 (by decide) ?_
  refine zz_aload_n dX4_relationAt_32 rfl ?_
  refine zz_get (ci := 4) (j := 1) zz_inX4 rfl zw_f_X4_15 rfl (by decide) dX4_relationAt_33 (by omega) px_x rfl ?_
  refine zz_iload_n dX4_relationAt_36 rfl ?_
  refine zz_aald (y := r) dX4_relationAt_37 (by omega) px_rs (vp_in_nI (by omega) (by omega)) (by rw [nI_clamp (by omega)]) ?_
  refine zz_aret dX4_relationAt_38 rfl ?_
  exact ⟨rfl, rfl⟩
set_option maxHeartbeats 1000000 in
set_option maxRecDepth 20000 in
theorem x_ra_x {v : Int32} (h : isR v = false) : zz_C mX4_relationAt 6 1 6 [.ref 52, .int v] (px El Lo Hi BL BH Od Ls (nI n) T) (fun o τ => o = .inr "java/lang/IndexOutOfBoundsException" ∧ τ = px El Lo Hi BL BH Od Ls (nI n) T) := by
  rcases isR_x h with h1 | ⟨h1, h2⟩
  · refine zz_start wPX4_relationAt rfl rfl (Nat.le_of_ble_eq_true rfl) ?_
    refine zz_iload_n dX4_relationAt_0 rfl ?_
    refine zz_if_lt (tgt := 22) dX4_relationAt_1 (by decide) (fun _ => ?_) (fun q => absurd h1 q)
    refine zz_throw (cls := "java/lang/IndexOutOfBoundsException") (text := "no such relation") (by decide +kernel) rfl rfl (by decide +kernel) zw_l_X4_239 zw_n_java_lang_IndexOutOfBoundsException zz_at_ioobe zz_bd_ioobe (by decide +kernel) dX4_relationAt_22 dX4_relationAt_25 dX4_relationAt_26 dX4_relationAt_28 dX4_relationAt_31 (by omega) (by omega) (by omega) (Nat.le_of_ble_eq_true rfl) ?_
    exact ⟨rfl, rfl⟩
  · refine zz_start wPX4_relationAt rfl rfl (Nat.le_of_ble_eq_true rfl) ?_
    refine zz_iload_n dX4_relationAt_0 rfl ?_
    refine zz_if_lt (tgt := 22) dX4_relationAt_1 (by decide) (fun q => absurd q h1) (fun _ => ?_)
    refine zz_iload_n dX4_relationAt_4 rfl ?_
    refine zz_aload_n dX4_relationAt_5 rfl ?_
    refine zz_get (ci := 4) (j := 1) zz_inX4 rfl zw_f_X4_15 rfl (by decide) dX4_relationAt_6 (by omega) px_x rfl ?_
    first | refine zz_alen1 (v := 80) dX4_relationAt_9 (by omega) (px_lo (by omega)) (by decide) ?_ | refine zz_alen1 (v := 80) dX4_relationAt_9 (by omega) (px_hi (by omega)) (by decide) ?_ | refine zz_alen0 (v := 80) dX4_relationAt_9 (by omega) (px_od (by omega)) (by decide) ?_ | refine zz_alen0 (v := 80) dX4_relationAt_9 (by omega) px_ls (by decide) ?_ | refine zz_alen3 (v := 4) dX4_relationAt_9 (by omega) px_rs (by decide) ?_
    refine zz_icmp_ge (tgt := 22) dX4_relationAt_10 (by decide) (fun _ => ?_) (fun q => absurd h2 q)
    refine zz_throw (cls := "java/lang/IndexOutOfBoundsException") (text := "no such relation") (by decide +kernel) rfl rfl (by decide +kernel) zw_l_X4_239 zw_n_java_lang_IndexOutOfBoundsException zz_at_ioobe zz_bd_ioobe (by decide +kernel) dX4_relationAt_22 dX4_relationAt_25 dX4_relationAt_26 dX4_relationAt_28 dX4_relationAt_31 (by omega) (by omega) (by omega) (Nat.le_of_ble_eq_true rfl) ?_
    exact ⟨rfl, rfl⟩
set_option maxHeartbeats 1000000 in
set_option maxRecDepth 20000 in
theorem x_ce_v {j : Nat} (hj : j < n) (hn : n ≤ 80) : zz_Dt mX4_checkElement 6 0 0 [.ref 52, .int (nI j)] (px El Lo Hi BL BH Od Ls (nI n) T) (.inl none) (px El Lo Hi BL BH Od Ls (nI n) T) := by
  refine zz_start wPX4_checkElement rfl rfl (Nat.le_of_ble_eq_true rfl) ?_
  refine zz_iload_n dX4_checkElement_0 rfl ?_
  refine zz_if_lt (tgt := 12) dX4_checkElement_1 (by decide) (fun h => absurd h (nI_pos (by omega))) (fun _ => ?_)
  refine zz_iload_n dX4_checkElement_4 rfl ?_
  refine zz_aload_n dX4_checkElement_5 rfl ?_
  refine zz_get (ci := 4) (j := 0) zz_inX4 rfl zw_f_X4_9 rfl (by decide) dX4_checkElement_6 (by omega) px_x rfl ?_
  refine zz_icmp_lt (tgt := 22) dX4_checkElement_9 (by decide) (fun _ => ?_) (fun h => absurd (nI_lt hj (by omega)) h)
  refine zz_vret dX4_checkElement_22 rfl ?_
  exact ⟨rfl, rfl⟩
set_option maxHeartbeats 1000000 in
set_option maxRecDepth 20000 in
theorem x_ce_x {v : Int32} (hn : n ≤ 80) (h : isE n v = false) : zz_C mX4_checkElement 6 1 6 [.ref 52, .int v] (px El Lo Hi BL BH Od Ls (nI n) T) (fun o τ => o = .inr "java/lang/IndexOutOfBoundsException" ∧ τ = px El Lo Hi BL BH Od Ls (nI n) T) := by
  rcases isE_x hn h with h1 | ⟨h1, h2⟩
  · refine zz_start wPX4_checkElement rfl rfl (Nat.le_of_ble_eq_true rfl) ?_
    refine zz_iload_n dX4_checkElement_0 rfl ?_
    refine zz_if_lt (tgt := 12) dX4_checkElement_1 (by decide) (fun _ => ?_) (fun q => absurd h1 q)
    refine zz_throw (cls := "java/lang/IndexOutOfBoundsException") (text := "no such element") (by decide +kernel) rfl rfl (by decide +kernel) zw_l_X4_239 zw_n_java_lang_IndexOutOfBoundsException zz_at_ioobe zz_bd_ioobe (by decide +kernel) dX4_checkElement_12 dX4_checkElement_15 dX4_checkElement_16 dX4_checkElement_18 dX4_checkElement_21 (by omega) (by omega) (by omega) (Nat.le_of_ble_eq_true rfl) ?_
    exact ⟨rfl, rfl⟩
  · refine zz_start wPX4_checkElement rfl rfl (Nat.le_of_ble_eq_true rfl) ?_
    refine zz_iload_n dX4_checkElement_0 rfl ?_
    refine zz_if_lt (tgt := 12) dX4_checkElement_1 (by decide) (fun q => absurd q h1) (fun _ => ?_)
    refine zz_iload_n dX4_checkElement_4 rfl ?_
    refine zz_aload_n dX4_checkElement_5 rfl ?_
    refine zz_get (ci := 4) (j := 0) zz_inX4 rfl zw_f_X4_9 rfl (by decide) dX4_checkElement_6 (by omega) px_x rfl ?_
    refine zz_icmp_lt (tgt := 22) dX4_checkElement_9 (by decide) (fun q => absurd q (Int32.not_lt.mpr h2)) (fun _ => ?_)
    refine zz_throw (cls := "java/lang/IndexOutOfBoundsException") (text := "no such element") (by decide +kernel) rfl rfl (by decide +kernel) zw_l_X4_239 zw_n_java_lang_IndexOutOfBoundsException zz_at_ioobe zz_bd_ioobe (by decide +kernel) dX4_checkElement_12 dX4_checkElement_15 dX4_checkElement_16 dX4_checkElement_18 dX4_checkElement_21 (by omega) (by omega) (by omega) (Nat.le_of_ble_eq_true rfl) ?_
    exact ⟨rfl, rfl⟩
set_option maxHeartbeats 1000000 in
set_option maxRecDepth 20000 in
theorem x_cr_v {a e : Nat} (hae : a ≤ e) (hen : e ≤ n) (hn : n ≤ 80) : zz_Dt mX4_checkRange 6 0 0 [.ref 52, .int (nI a), .int (nI e)] (px El Lo Hi BL BH Od Ls (nI n) T) (.inl none) (px El Lo Hi BL BH Od Ls (nI n) T) := by
  refine zz_start wPX4_checkRange rfl rfl (Nat.le_of_ble_eq_true rfl) ?_
  refine zz_iload_n dX4_checkRange_0 rfl ?_
  refine zz_if_lt (tgt := 17) dX4_checkRange_1 (by decide) (fun h => absurd h (nI_pos (by omega))) (fun _ => ?_)
  refine zz_iload_n dX4_checkRange_4 rfl ?_
  refine zz_aload_n dX4_checkRange_5 rfl ?_
  refine zz_get (ci := 4) (j := 0) zz_inX4 rfl zw_f_X4_9 rfl (by decide) dX4_checkRange_6 (by omega) px_x rfl ?_
  refine zz_icmp_gt (tgt := 17) dX4_checkRange_9 (by decide) (fun h => absurd h (nI_nlt hen (by omega))) (fun _ => ?_)
  refine zz_iload_n dX4_checkRange_12 rfl ?_
  refine zz_iload_n dX4_checkRange_13 rfl ?_
  refine zz_icmp_le (tgt := 27) dX4_checkRange_14 (by decide) (fun _ => ?_) (fun h => absurd (nI_le hae (by omega)) h)
  refine zz_vret dX4_checkRange_27 rfl ?_
  exact ⟨rfl, rfl⟩
set_option maxHeartbeats 1000000 in
set_option maxRecDepth 20000 in
theorem x_cr_x {v w : Int32} (h : isG n v w = false) : zz_C mX4_checkRange 6 1 6 [.ref 52, .int v, .int w] (px El Lo Hi BL BH Od Ls (nI n) T) (fun o τ => o = .inr "java/lang/IndexOutOfBoundsException" ∧ τ = px El Lo Hi BL BH Od Ls (nI n) T) := by
  rcases isG_x h with h1 | ⟨h1, h2⟩ | ⟨h1, h2, h3⟩
  · refine zz_start wPX4_checkRange rfl rfl (Nat.le_of_ble_eq_true rfl) ?_
    refine zz_iload_n dX4_checkRange_0 rfl ?_
    refine zz_if_lt (tgt := 17) dX4_checkRange_1 (by decide) (fun _ => ?_) (fun q => absurd h1 q)
    refine zz_throw (cls := "java/lang/IndexOutOfBoundsException") (text := "no such range") (by decide +kernel) rfl rfl (by decide +kernel) zw_l_X4_239 zw_n_java_lang_IndexOutOfBoundsException zz_at_ioobe zz_bd_ioobe (by decide +kernel) dX4_checkRange_17 dX4_checkRange_20 dX4_checkRange_21 dX4_checkRange_23 dX4_checkRange_26 (by omega) (by omega) (by omega) (Nat.le_of_ble_eq_true rfl) ?_
    exact ⟨rfl, rfl⟩
  · refine zz_start wPX4_checkRange rfl rfl (Nat.le_of_ble_eq_true rfl) ?_
    refine zz_iload_n dX4_checkRange_0 rfl ?_
    refine zz_if_lt (tgt := 17) dX4_checkRange_1 (by decide) (fun q => absurd q h1) (fun _ => ?_)
    refine zz_iload_n dX4_checkRange_4 rfl ?_
    refine zz_aload_n dX4_checkRange_5 rfl ?_
    refine zz_get (ci := 4) (j := 0) zz_inX4 rfl zw_f_X4_9 rfl (by decide) dX4_checkRange_6 (by omega) px_x rfl ?_
    refine zz_icmp_gt (tgt := 17) dX4_checkRange_9 (by decide) (fun _ => ?_) (fun q => absurd h2 q)
    refine zz_throw (cls := "java/lang/IndexOutOfBoundsException") (text := "no such range") (by decide +kernel) rfl rfl (by decide +kernel) zw_l_X4_239 zw_n_java_lang_IndexOutOfBoundsException zz_at_ioobe zz_bd_ioobe (by decide +kernel) dX4_checkRange_17 dX4_checkRange_20 dX4_checkRange_21 dX4_checkRange_23 dX4_checkRange_26 (by omega) (by omega) (by omega) (Nat.le_of_ble_eq_true rfl) ?_
    exact ⟨rfl, rfl⟩
  · refine zz_start wPX4_checkRange rfl rfl (Nat.le_of_ble_eq_true rfl) ?_
    refine zz_iload_n dX4_checkRange_0 rfl ?_
    refine zz_if_lt (tgt := 17) dX4_checkRange_1 (by decide) (fun q => absurd q h1) (fun _ => ?_)
    refine zz_iload_n dX4_checkRange_4 rfl ?_
    refine zz_aload_n dX4_checkRange_5 rfl ?_
    refine zz_get (ci := 4) (j := 0) zz_inX4 rfl zw_f_X4_9 rfl (by decide) dX4_checkRange_6 (by omega) px_x rfl ?_
    refine zz_icmp_gt (tgt := 17) dX4_checkRange_9 (by decide) (fun q => absurd q h2) (fun _ => ?_)
    refine zz_iload_n dX4_checkRange_12 rfl ?_
    refine zz_iload_n dX4_checkRange_13 rfl ?_
    refine zz_icmp_le (tgt := 27) dX4_checkRange_14 (by decide) (fun q => absurd q h3) (fun _ => ?_)
    refine zz_throw (cls := "java/lang/IndexOutOfBoundsException") (text := "no such range") (by decide +kernel) rfl rfl (by decide +kernel) zw_l_X4_239 zw_n_java_lang_IndexOutOfBoundsException zz_at_ioobe zz_bd_ioobe (by decide +kernel) dX4_checkRange_17 dX4_checkRange_20 dX4_checkRange_21 dX4_checkRange_23 dX4_checkRange_26 (by omega) (by omega) (by omega) (Nat.le_of_ble_eq_true rfl) ?_
    exact ⟨rfl, rfl⟩
set_option maxHeartbeats 1000000 in
set_option maxRecDepth 20000 in
theorem x_seedAfter {σ : zz_St} (x : Int32) : zz_Dt mX4_seedAfter 0 0 0 [.int x] σ (.inl (some (.int (sdA x)))) σ := by
  refine zz_start wPX4_seedAfter rfl rfl (Nat.le_of_ble_eq_true rfl) ?_
  refine zz_iload_n dX4_seedAfter_0 rfl ?_
  refine zz_ldc dX4_seedAfter_1 zw_k_X4_248 ?_
  refine zz_imul dX4_seedAfter_3 ?_
  refine zz_sipush (v := 12345) dX4_seedAfter_4 (by decide) ?_
  refine zz_iadd dX4_seedAfter_7 ?_
  refine zz_iret dX4_seedAfter_8 rfl ?_
  exact ⟨rfl, rfl⟩
set_option maxHeartbeats 1000000 in
set_option maxRecDepth 20000 in
theorem x_elementOf (h1 : 1 ≤ n) (hn : n ≤ 80) (x : Int32) : zz_Dt mX4_elementOf 0 0 0 [.ref 52, .int x] (px El Lo Hi BL BH Od Ls (nI n) T) (.inl (some (.int (nI (elN n x))))) (px El Lo Hi BL BH Od Ls (nI n) T) := by
  refine zz_start wPX4_elementOf rfl rfl (Nat.le_of_ble_eq_true rfl) ?_
  refine zz_aload_n dX4_elementOf_0 rfl ?_
  refine zz_get (ci := 4) (j := 0) zz_inX4 rfl zw_f_X4_9 rfl (by decide) dX4_elementOf_1 (by omega) px_x rfl ?_
  refine zz_iconst (v := 1) dX4_elementOf_4 (by decide) ?_
  refine zz_icmp_ge (tgt := 12) dX4_elementOf_5 (by decide) (fun _ => ?_) (fun h => absurd (nI_le (a := 1) h1 (by omega)) h)
  refine zz_iload_n dX4_elementOf_12 rfl ?_
  refine zz_bipush (v := 16) dX4_elementOf_13 (by decide) ?_
  refine zz_iushr dX4_elementOf_15 rfl ?_
  refine zz_tope (us16 x) ?_
  refine zz_aload_n dX4_elementOf_16 rfl ?_
  refine zz_get (ci := 4) (j := 0) zz_inX4 rfl zw_f_X4_9 rfl (by decide) dX4_elementOf_17 (by omega) px_x rfl ?_
  refine zz_irem dX4_elementOf_20 (nI_ne0 (by omega) (by omega)) ?_
  refine zz_iret dX4_elementOf_21 rfl ?_
  exact ⟨by rw [rm16 h1 hn], rfl⟩
set_option maxHeartbeats 1000000 in
set_option maxRecDepth 20000 in
theorem x_closeAside {r : Nat} (hr : r < 4) (hE : El r = nI n) (hn : n ≤ 80) : zz_Dt mX4_closeAside 3 0 0 [.ref 52, .ref r] (px El Lo Hi BL BH Od Ls (nI n) T) (.inl none) (px (va_up El 4 (El r)) (va_up Lo 4 (clP n (cpy n (Lo r) (Lo 4), cpy n (Hi r) (Hi 4)) n).1) (va_up Hi 4 (clP n (cpy n (Lo r) (Lo 4), cpy n (Hi r) (Hi 4)) n).2) BL BH Od Ls (nI n) T) := by
  refine zz_start wPX4_closeAside rfl rfl (Nat.le_of_ble_eq_true rfl) ?_
  refine zz_aload_n dX4_closeAside_0 rfl ?_
  refine zz_get (ci := 4) (j := 4) zz_inX4 rfl zw_f_X4_30 rfl (by decide) dX4_closeAside_1 (by omega) px_x rfl ?_
  refine zz_aload_n dX4_closeAside_4 rfl ?_
  refine zz_callV0 (ci := 1) (c_take (show 4 < 8 by omega) (show r < 8 by omega) hE hn) dX4_closeAside_5 zw_m_X4_118 wYX1_take wDX1_take rfl (by omega) (px_rel (by omega)) rfl (Nat.le_of_ble_eq_true rfl) (by decide) rfl ?_
  refine zz_aload_n dX4_closeAside_8 rfl ?_
  refine zz_get (ci := 4) (j := 4) zz_inX4 rfl zw_f_X4_30 rfl (by decide) dX4_closeAside_9 (by omega) px_x rfl ?_
  refine zz_callV0 (ci := 1) (c_closeUp (show 4 < 8 by omega) (by rw [up_at]; exact hE) hn) dX4_closeAside_12 zw_m_X4_137 wYX1_closeUp wDX1_closeUp rfl (by omega) (px_rel (by omega)) rfl (Nat.le_of_ble_eq_true rfl) (by decide) rfl ?_
  refine zz_vret dX4_closeAside_15 rfl ?_
  exact ⟨rfl, by simp only [up_at, up_up]⟩
end ZZX4A
