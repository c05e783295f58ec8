section ZZX4C
variable {El : Nat → Int32} {Lo Hi : Nat → Nat → Int64} {BL BH : Nat → Int64} {Od : Nat → Nat → Int32} {Ls : Nat → Int32} {n : Nat} {R : Nat → Nat → Nat → Bool} {mk : Nat → Bool} {T : zz_St}
theorem prs_end {n r : Nat} {L H : Nat → Nat → Int64} {X : Nat → Nat → Bool} (hn : n ≤ 80) {A B : Nat → Int64} (hA : lk A B n X) : prs A B n = nI (sm (fun j => cnt (X j) n) n) := lk_prs hn hA n (Nat.le_refl n)
set_option maxHeartbeats 1000000 in
set_option maxRecDepth 20000 in
theorem x_copy_v {r w : Nat} (hr : r < 4) (hw : w < 4) (hI : cI n El Lo Hi BL BH R mk) : zz_C mX4_copy 7 1 6 [.ref 52, .int (nI r), .int (nI w)] (px El Lo Hi BL BH Od Ls (nI n) T) (xQ n (va_up R w (R r)) mk T (.inl (some (.int (nI (sm (fun j => cnt ((R r) j) n) n)))))) := by
  have hn := cI_n hI
  have hA := lk_cpy (L' := Lo w) (H' := Hi w) (cI_R hI hr)
  · refine zz_start wPX4_copy rfl rfl (Nat.le_of_ble_eq_true rfl) ?_
    refine zz_aload_n dX4_copy_0 rfl ?_
    refine zz_iload_n dX4_copy_1 rfl ?_
    refine zz_callV1 (ci := 4) (x_ra_v hr) dX4_copy_2 zw_m_X4_55 wYX4_relationAt wDX4_relationAt rfl (by omega) px_x rfl (Nat.le_of_ble_eq_true rfl) (by decide) rfl ?_
    refine zz_astore_n dX4_copy_5 (by decide) ?_
    refine zz_aload_n dX4_copy_6 rfl ?_
    refine zz_iload_n dX4_copy_7 rfl ?_
    refine zz_callV1 (ci := 4) (x_ra_v hw) dX4_copy_8 zw_m_X4_55 wYX4_relationAt wDX4_relationAt rfl (by omega) px_x rfl (Nat.le_of_ble_eq_true rfl) (by decide) rfl ?_
    refine zz_astore dX4_copy_11 (by decide) ?_
    refine zz_aload dX4_copy_13 rfl ?_
    refine zz_aload_n dX4_copy_15 rfl ?_
    refine zz_callV0 (ci := 1) (c_take (show w < 8 by omega) (show r < 8 by omega) (cI_E hI hr) hn) dX4_copy_16 zw_m_X4_118 wYX1_take wDX1_take rfl (by omega) (px_rel (by omega)) rfl (Nat.le_of_ble_eq_true rfl) (by decide) rfl ?_
    refine zz_aload dX4_copy_19 rfl ?_
    refine zz_callV1 (ci := 1) (c_pairs (show w < 8 by omega) (by rw [up_at]; exact cI_E hI hr) hn) dX4_copy_21 zw_m_X4_106 wYX1_pairs wDX1_pairs rfl (by omega) (px_rel (by omega)) rfl (Nat.le_of_ble_eq_true rfl) (by decide) rfl ?_
    refine zz_iret dX4_copy_24 rfl ?_
    simp only [up_at]
    refine xQ_i (by rw [lk_prs hn hA n (Nat.le_refl n)]) (cI_r hI hw (by rw [up_at]; exact cI_E hI hr) (fun q _ hq => up_ne _ _ hq) hA rfl rfl)
set_option maxHeartbeats 1000000 in
set_option maxRecDepth 20000 in
theorem x_copy_1 {v : Int32} (h : isR v = false) (u : Int32) : zz_C mX4_copy 7 1 6 [.ref 52, .int v, .int u] (px El Lo Hi BL BH Od Ls (nI n) T) (fun o τ => o = .inr "java/lang/IndexOutOfBoundsException" ∧ τ = px El Lo Hi BL BH Od Ls (nI n) T) := by
  · refine zz_start wPX4_copy rfl rfl (Nat.le_of_ble_eq_true rfl) ?_
    refine zz_aload_n dX4_copy_0 rfl ?_
    refine zz_iload_n dX4_copy_1 rfl ?_
    refine zz_callV (ci := 4) (x_ra_x h) dX4_copy_2 zw_m_X4_55 wYX4_relationAt wDX4_relationAt rfl (by omega) px_x rfl (Nat.le_of_ble_eq_true rfl) (by decide) (by omega) (by omega) rfl (fun v9 τ9 h9 => by cases h9.1) (fun E9 τ9 h9 => ?_)
    obtain ⟨h91, rfl⟩ := h9
    cases h91
    exact ⟨rfl, rfl⟩
set_option maxHeartbeats 1000000 in
set_option maxRecDepth 20000 in
theorem x_copy_2 {r : Nat} (hr : r < 4) {u : Int32} (h : isR u = false) : zz_C mX4_copy 7 1 6 [.ref 52, .int (nI r), .int u] (px El Lo Hi BL BH Od Ls (nI n) T) (fun o τ => o = .inr "java/lang/IndexOutOfBoundsException" ∧ τ = px El Lo Hi BL BH Od Ls (nI n) T) := by
  · refine zz_start wPX4_copy rfl rfl (Nat.le_of_ble_eq_true rfl) ?_
    refine zz_aload_n dX4_copy_0 rfl ?_
    refine zz_iload_n dX4_copy_1 rfl ?_
    refine zz_callV1 (ci := 4) (x_ra_v hr) dX4_copy_2 zw_m_X4_55 wYX4_relationAt wDX4_relationAt rfl (by omega) px_x rfl (Nat.le_of_ble_eq_true rfl) (by decide) rfl ?_
    refine zz_astore_n dX4_copy_5 (by decide) ?_
    refine zz_aload_n dX4_copy_6 rfl ?_
    refine zz_iload_n dX4_copy_7 rfl ?_
    refine zz_callV (ci := 4) (x_ra_x h) dX4_copy_8 zw_m_X4_55 wYX4_relationAt wDX4_relationAt rfl (by omega) px_x rfl (Nat.le_of_ble_eq_true rfl) (by decide) (by omega) (by omega) rfl (fun v9 τ9 h9 => by cases h9.1) (fun E9 τ9 h9 => ?_)
    obtain ⟨h91, rfl⟩ := h9
    cases h91
    exact ⟨rfl, rfl⟩
set_option maxHeartbeats 1000000 in
set_option maxRecDepth 20000 in
theorem x_combine_v {r w : Nat} (hr : r < 4) (hw : w < 4) {h : Nat} (hh : h < 4) (hI : cI n El Lo Hi BL BH R mk) : zz_C mX4_combine 7 1 6 [.ref 52, .int (nI r), .int (nI w), .int (nI h)] (px El Lo Hi BL BH Od Ls (nI n) T) (xQ n (va_up R r (fun i k => cmb h (R r i k) (R w i k))) mk T (.inl (some (.int (nI (sm (fun j => cnt ((fun i k => cmb h (R r i k) (R w i k)) j) n) n)))))) := by
  have hn := cI_n hI
  have hA := lk_mxd (A' := Lo r) (B' := Hi r) (cI_R hI hr) (cI_R hI hw) hh
  · refine zz_start wPX4_combine rfl rfl (Nat.le_of_ble_eq_true rfl) ?_
    refine zz_aload_n dX4_combine_0 rfl ?_
    refine zz_iload_n dX4_combine_1 rfl ?_
    refine zz_callV1 (ci := 4) (x_ra_v hr) dX4_combine_2 zw_m_X4_55 wYX4_relationAt wDX4_relationAt rfl (by omega) px_x rfl (Nat.le_of_ble_eq_true rfl) (by decide) rfl ?_
    refine zz_astore dX4_combine_5 (by decide) ?_
    refine zz_aload_n dX4_combine_7 rfl ?_
    refine zz_iload_n dX4_combine_8 rfl ?_
    refine zz_callV1 (ci := 4) (x_ra_v hw) dX4_combine_9 zw_m_X4_55 wYX4_relationAt wDX4_relationAt rfl (by omega) px_x rfl (Nat.le_of_ble_eq_true rfl) (by decide) rfl ?_
    refine zz_astore dX4_combine_12 (by decide) ?_
    refine zz_iload_n dX4_combine_14 rfl ?_
    refine zz_if_lt (tgt := 23) dX4_combine_15 (by decide) (fun h => absurd h (nI_pos (by omega))) (fun _ => ?_)
    refine zz_iload_n dX4_combine_18 rfl ?_
    refine zz_iconst (v := 3) dX4_combine_19 (by decide) ?_
    refine zz_icmp_le (tgt := 33) dX4_combine_20 (by decide) (fun _ => ?_) (fun h => absurd (nI_le (b := 3) (by omega) (by omega)) h)
    refine zz_aload dX4_combine_33 rfl ?_
    refine zz_aload dX4_combine_35 rfl ?_
    refine zz_iload_n dX4_combine_37 rfl ?_
    refine zz_callV0 (ci := 1) (c_mix (show r < 8 by omega) (show w < 8 by omega) hh (cI_E hI hr) hn) dX4_combine_38 zw_m_X4_124 wYX1_mix wDX1_mix rfl (by omega) (px_rel (by omega)) rfl (Nat.le_of_ble_eq_true rfl) (by decide) rfl ?_
    refine zz_aload dX4_combine_41 rfl ?_
    refine zz_callV1 (ci := 1) (c_pairs (show r < 8 by omega) (cI_E hI hr) hn) dX4_combine_43 zw_m_X4_106 wYX1_pairs wDX1_pairs rfl (by omega) (px_rel (by omega)) rfl (Nat.le_of_ble_eq_true rfl) (by decide) rfl ?_
    refine zz_iret dX4_combine_46 rfl ?_
    simp only [up_at]
    refine xQ_i (by rw [lk_prs hn hA n (Nat.le_refl n)]) (cI_up hI hA rfl rfl)
set_option maxHeartbeats 1000000 in
set_option maxRecDepth 20000 in
theorem x_combine_1 {v : Int32} (h : isR v = false) (u z : Int32) : zz_C mX4_combine 7 1 6 [.ref 52, .int v, .int u, .int z] (px El Lo Hi BL BH Od Ls (nI n) T) (fun o τ => o = .inr "java/lang/IndexOutOfBoundsException" ∧ τ = px El Lo Hi BL BH Od Ls (nI n) T) := by
  · refine zz_start wPX4_combine rfl rfl (Nat.le_of_ble_eq_true rfl) ?_
    refine zz_aload_n dX4_combine_0 rfl ?_
    refine zz_iload_n dX4_combine_1 rfl ?_
    refine zz_callV (ci := 4) (x_ra_x h) dX4_combine_2 zw_m_X4_55 wYX4_relationAt wDX4_relationAt rfl (by omega) px_x rfl (Nat.le_of_ble_eq_true rfl) (by decide) (by omega) (by omega) rfl (fun v9 τ9 h9 => by cases h9.1) (fun E9 τ9 h9 => ?_)
    obtain ⟨h91, rfl⟩ := h9
    cases h91
    exact ⟨rfl, rfl⟩
set_option maxHeartbeats 1000000 in
set_option maxRecDepth 20000 in
theorem x_combine_2 {r : Nat} (hr : r < 4) {u : Int32} (h : isR u = false) (z : Int32) : zz_C mX4_combine 7 1 6 [.ref 52, .int (nI r), .int u, .int z] (px El Lo Hi BL BH Od Ls (nI n) T) (fun o τ => o = .inr "java/lang/IndexOutOfBoundsException" ∧ τ = px El Lo Hi BL BH Od Ls (nI n) T) := by
  · refine zz_start wPX4_combine rfl rfl (Nat.le_of_ble_eq_true rfl) ?_
    refine zz_aload_n dX4_combine_0 rfl ?_
    refine zz_iload_n dX4_combine_1 rfl ?_
    refine zz_callV1 (ci := 4) (x_ra_v hr) dX4_combine_2 zw_m_X4_55 wYX4_relationAt wDX4_relationAt rfl (by omega) px_x rfl (Nat.le_of_ble_eq_true rfl) (by decide) rfl ?_
    refine zz_astore dX4_combine_5 (by decide) ?_
    refine zz_aload_n dX4_combine_7 rfl ?_
    refine zz_iload_n dX4_combine_8 rfl ?_
    refine zz_callV (ci := 4) (x_ra_x h) dX4_combine_9 zw_m_X4_55 wYX4_relationAt wDX4_relationAt rfl (by omega) px_x rfl (Nat.le_of_ble_eq_true rfl) (by decide) (by omega) (by omega) rfl (fun v9 τ9 h9 => by cases h9.1) (fun E9 τ9 h9 => ?_)
    obtain ⟨h91, rfl⟩ := h9
    cases h91
    exact ⟨rfl, rfl⟩
set_option maxHeartbeats 1000000 in
set_option maxRecDepth 20000 in
theorem x_combine_3 {r w : Nat} (hr : r < 4) (hw : w < 4) {z : Int32} (h : isR z = false) : zz_C mX4_combine 7 1 6 [.ref 52, .int (nI r), .int (nI w), .int z] (px El Lo Hi BL BH Od Ls (nI n) T) (fun o τ => o = .inr "java/lang/IllegalArgumentException" ∧ τ = px El Lo Hi BL BH Od Ls (nI n) T) := by
  rcases isR_x3 h with h1 | ⟨h1, h2⟩
  · refine zz_start wPX4_combine rfl rfl (Nat.le_of_ble_eq_true rfl) ?_
    refine zz_aload_n dX4_combine_0 rfl ?_
    refine zz_iload_n dX4_combine_1 rfl ?_
    refine zz_callV1 (ci := 4) (x_ra_v hr) dX4_combine_2 zw_m_X4_55 wYX4_relationAt wDX4_relationAt rfl (by omega) px_x rfl (Nat.le_of_ble_eq_true rfl) (by decide) rfl ?_
    refine zz_astore dX4_combine_5 (by decide) ?_
    refine zz_aload_n dX4_combine_7 rfl ?_
    refine zz_iload_n dX4_combine_8 rfl ?_
    refine zz_callV1 (ci := 4) (x_ra_v hw) dX4_combine_9 zw_m_X4_55 wYX4_relationAt wDX4_relationAt rfl (by omega) px_x rfl (Nat.le_of_ble_eq_true rfl) (by decide) rfl ?_
    refine zz_astore dX4_combine_12 (by decide) ?_
    refine zz_iload_n dX4_combine_14 rfl ?_
    refine zz_if_lt (tgt := 23) dX4_combine_15 (by decide) (fun _ => ?_) (fun q => absurd h1 q)
    refine zz_throw (cls := "java/lang/IllegalArgumentException") (text := "how is out of range") (by decide +kernel) rfl rfl (by decide +kernel) zw_l_X4_48 zw_n_java_lang_IllegalArgumentException zz_at_iae zz_bd_iae (by decide +kernel) dX4_combine_23 dX4_combine_26 dX4_combine_27 dX4_combine_29 dX4_combine_32 (by omega) (by omega) (by omega) (Nat.le_of_ble_eq_true rfl) ?_
    exact ⟨rfl, rfl⟩
  · refine zz_start wPX4_combine rfl rfl (Nat.le_of_ble_eq_true rfl) ?_
    refine zz_aload_n dX4_combine_0 rfl ?_
    refine zz_iload_n dX4_combine_1 rfl ?_
    refine zz_callV1 (ci := 4) (x_ra_v hr) dX4_combine_2 zw_m_X4_55 wYX4_relationAt wDX4_relationAt rfl (by omega) px_x rfl (Nat.le_of_ble_eq_true rfl) (by decide) rfl ?_
    refine zz_astore dX4_combine_5 (by decide) ?_
    refine zz_aload_n dX4_combine_7 rfl ?_
    refine zz_iload_n dX4_combine_8 rfl ?_
    refine zz_callV1 (ci := 4) (x_ra_v hw) dX4_combine_9 zw_m_X4_55 wYX4_relationAt wDX4_relationAt rfl (by omega) px_x rfl (Nat.le_of_ble_eq_true rfl) (by decide) rfl ?_
    refine zz_astore dX4_combine_12 (by decide) ?_
    refine zz_iload_n dX4_combine_14 rfl ?_
    refine zz_if_lt (tgt := 23) dX4_combine_15 (by decide) (fun q => absurd q h1) (fun _ => ?_)
    refine zz_iload_n dX4_combine_18 rfl ?_
    refine zz_iconst (v := 3) dX4_combine_19 (by decide) ?_
    refine zz_icmp_le (tgt := 33) dX4_combine_20 (by decide) (fun q => absurd q h2) (fun _ => ?_)
    refine zz_throw (cls := "java/lang/IllegalArgumentException") (text := "how is out of range") (by decide +kernel) rfl rfl (by decide +kernel) zw_l_X4_48 zw_n_java_lang_IllegalArgumentException zz_at_iae zz_bd_iae (by decide +kernel) dX4_combine_23 dX4_combine_26 dX4_combine_27 dX4_combine_29 dX4_combine_32 (by omega) (by omega) (by omega) (Nat.le_of_ble_eq_true rfl) ?_
    exact ⟨rfl, rfl⟩
set_option maxHeartbeats 1000000 in
set_option maxRecDepth 20000 in
theorem x_compose_v {a b w : Nat} (ha : a < 4) (hb : b < 4) (hw : w < 4) (hI : cI n El Lo Hi BL BH R mk) : zz_C mX4_compose 7 1 6 [.ref 52, .int (nI a), .int (nI b), .int (nI w)] (px El Lo Hi BL BH Od Ls (nI n) T) (xQ n (va_up R w (fun i k => anb (fun j => R a i j && R b j k) n)) mk T (.inl (some (.int (nI (sm (fun j => cnt ((fun i k => anb (fun j => R a i j && R b j k) n) j) n) n)))))) := by
  have hn := cI_n hI
  have hA := lk_cpy (L' := Lo w) (H' := Hi w) (lk_prod (A' := Lo 4) (B' := Hi 4) hn (cI_R hI ha) (cI_R hI hb))
  · refine zz_start wPX4_compose rfl rfl (Nat.le_of_ble_eq_true rfl) ?_
    refine zz_aload_n dX4_compose_0 rfl ?_
    refine zz_iload_n dX4_compose_1 rfl ?_
    refine zz_callV1 (ci := 4) (x_ra_v ha) dX4_compose_2 zw_m_X4_55 wYX4_relationAt wDX4_relationAt rfl (by omega) px_x rfl (Nat.le_of_ble_eq_true rfl) (by decide) rfl ?_
    refine zz_astore dX4_compose_5 (by decide) ?_
    refine zz_aload_n dX4_compose_7 rfl ?_
    refine zz_iload_n dX4_compose_8 rfl ?_
    refine zz_callV1 (ci := 4) (x_ra_v hb) dX4_compose_9 zw_m_X4_55 wYX4_relationAt wDX4_relationAt rfl (by omega) px_x rfl (Nat.le_of_ble_eq_true rfl) (by decide) rfl ?_
    refine zz_astore dX4_compose_12 (by decide) ?_
    refine zz_aload_n dX4_compose_14 rfl ?_
    refine zz_iload_n dX4_compose_15 rfl ?_
    refine zz_callV1 (ci := 4) (x_ra_v hw) dX4_compose_16 zw_m_X4_55 wYX4_relationAt wDX4_relationAt rfl (by omega) px_x rfl (Nat.le_of_ble_eq_true rfl) (by decide) rfl ?_
    refine zz_astore dX4_compose_19 (by decide) ?_
    refine zz_aload_n dX4_compose_21 rfl ?_
    refine zz_get (ci := 4) (j := 4) zz_inX4 rfl zw_f_X4_30 rfl (by decide) dX4_compose_22 (by omega) px_x rfl ?_
    refine zz_aload dX4_compose_25 rfl ?_
    refine zz_aload dX4_compose_27 rfl ?_
    refine zz_callV (ci := 1) (c_product (r := 4) (a := a) (b := b) (by omega) (by omega) (by omega) (by omega) (by omega) hn (cI_E hI ha) (cI_E hI hb) (lk_cln (cI_R hI ha))) dX4_compose_29 zw_m_X4_128 wYX1_product wDX1_product rfl (by omega) (px_rel (by omega)) rfl (Nat.le_of_ble_eq_true rfl) (by decide) (by omega) (by omega) rfl ?_ (fun E τ hE => by cases hE.1)
    rintro v9 τ9 ⟨hv9, B, C, hB, hC, rfl⟩
    cases hv9
    refine zz_aload dX4_compose_32 rfl ?_
    refine zz_aload_n dX4_compose_34 rfl ?_
    refine zz_get (ci := 4) (j := 4) zz_inX4 rfl zw_f_X4_30 rfl (by decide) dX4_compose_35 (by omega) px_x rfl ?_
    refine zz_callV0 (ci := 1) (c_take (show w < 8 by omega) (show 4 < 8 by omega) (by rw [up_at]; exact cI_E hI ha) hn) dX4_compose_38 zw_m_X4_118 wYX1_take wDX1_take rfl (by omega) (px_rel (by omega)) rfl (Nat.le_of_ble_eq_true rfl) (by decide) rfl ?_
    refine zz_aload dX4_compose_41 rfl ?_
    refine zz_callV1 (ci := 1) (c_pairs (show w < 8 by omega) (by rw [up_at, up_at]; exact cI_E hI ha) hn) dX4_compose_43 zw_m_X4_106 wYX1_pairs wDX1_pairs rfl (by omega) (px_rel (by omega)) rfl (Nat.le_of_ble_eq_true rfl) (by decide) rfl ?_
    refine zz_iret dX4_compose_46 rfl ?_
    simp only [up_at, up_ne _ _ (show w ≠ 4 by omega)]
    refine xQ_i (by rw [lk_prs hn hA n (Nat.le_refl n)]) (cI_r (cI_4 hI (q := 4) (by omega) (El a) _ _ (hB 32 (by omega)) (hC 32 (by omega))) hw (by rw [up_at]; exact cI_E hI ha) (fun q _ hq => up_ne _ _ hq) hA rfl rfl)
set_option maxHeartbeats 1000000 in
set_option maxRecDepth 20000 in
theorem x_compose_1 {v : Int32} (h : isR v = false) (u x : Int32) : zz_C mX4_compose 7 1 6 [.ref 52, .int v, .int u, .int x] (px El Lo Hi BL BH Od Ls (nI n) T) (fun o τ => o = .inr "java/lang/IndexOutOfBoundsException" ∧ τ = px El Lo Hi BL BH Od Ls (nI n) T) := by
  · refine zz_start wPX4_compose rfl rfl (Nat.le_of_ble_eq_true rfl) ?_
    refine zz_aload_n dX4_compose_0 rfl ?_
    refine zz_iload_n dX4_compose_1 rfl ?_
    refine zz_callV (ci := 4) (x_ra_x h) dX4_compose_2 zw_m_X4_55 wYX4_relationAt wDX4_relationAt rfl (by omega) px_x rfl (Nat.le_of_ble_eq_true rfl) (by decide) (by omega) (by omega) rfl (fun v9 τ9 h9 => by cases h9.1) (fun E9 τ9 h9 => ?_)
    obtain ⟨h91, rfl⟩ := h9
    cases h91
    exact ⟨rfl, rfl⟩
set_option maxHeartbeats 1000000 in
set_option maxRecDepth 20000 in
theorem x_compose_2 {r : Nat} (hr : r < 4) {u : Int32} (h : isR u = false) (x : Int32) : zz_C mX4_compose 7 1 6 [.ref 52, .int (nI r), .int u, .int x] (px El Lo Hi BL BH Od Ls (nI n) T) (fun o τ => o = .inr "java/lang/IndexOutOfBoundsException" ∧ τ = px El Lo Hi BL BH Od Ls (nI n) T) := by
  · refine zz_start wPX4_compose rfl rfl (Nat.le_of_ble_eq_true rfl) ?_
    refine zz_aload_n dX4_compose_0 rfl ?_
    refine zz_iload_n dX4_compose_1 rfl ?_
    refine zz_callV1 (ci := 4) (x_ra_v hr) dX4_compose_2 zw_m_X4_55 wYX4_relationAt wDX4_relationAt rfl (by omega) px_x rfl (Nat.le_of_ble_eq_true rfl) (by decide) rfl ?_
    refine zz_astore dX4_compose_5 (by decide) ?_
    refine zz_aload_n dX4_compose_7 rfl ?_
    refine zz_iload_n dX4_compose_8 rfl ?_
    refine zz_callV (ci := 4) (x_ra_x h) dX4_compose_9 zw_m_X4_55 wYX4_relationAt wDX4_relationAt rfl (by omega) px_x rfl (Nat.le_of_ble_eq_true rfl) (by decide) (by omega) (by omega) rfl (fun v9 τ9 h9 => by cases h9.1) (fun E9 τ9 h9 => ?_)
    obtain ⟨h91, rfl⟩ := h9
    cases h91
    exact ⟨rfl, rfl⟩
set_option maxHeartbeats 1000000 in
set_option maxRecDepth 20000 in
theorem x_compose_3 {r w : Nat} (hr : r < 4) (hw : w < 4) {x : Int32} (h : isR x = false) : zz_C mX4_compose 7 1 6 [.ref 52, .int (nI r), .int (nI w), .int x] (px El Lo Hi BL BH Od Ls (nI n) T) (fun o τ => o = .inr "java/lang/IndexOutOfBoundsException" ∧ τ = px El Lo Hi BL BH Od Ls (nI n) T) := by
  · refine zz_start wPX4_compose rfl rfl (Nat.le_of_ble_eq_true rfl) ?_
    refine zz_aload_n dX4_compose_0 rfl ?_
    refine zz_iload_n dX4_compose_1 rfl ?_
    refine zz_callV1 (ci := 4) (x_ra_v hr) dX4_compose_2 zw_m_X4_55 wYX4_relationAt wDX4_relationAt rfl (by omega) px_x rfl (Nat.le_of_ble_eq_true rfl) (by decide) rfl ?_
    refine zz_astore dX4_compose_5 (by decide) ?_
    refine zz_aload_n dX4_compose_7 rfl ?_
    refine zz_iload_n dX4_compose_8 rfl ?_
    refine zz_callV1 (ci := 4) (x_ra_v hw) dX4_compose_9 zw_m_X4_55 wYX4_relationAt wDX4_relationAt rfl (by omega) px_x rfl (Nat.le_of_ble_eq_true rfl) (by decide) rfl ?_
    refine zz_astore dX4_compose_12 (by decide) ?_
    refine zz_aload_n dX4_compose_14 rfl ?_
    refine zz_iload_n dX4_compose_15 rfl ?_
    refine zz_callV (ci := 4) (x_ra_x h) dX4_compose_16 zw_m_X4_55 wYX4_relationAt wDX4_relationAt rfl (by omega) px_x rfl (Nat.le_of_ble_eq_true rfl) (by decide) (by omega) (by omega) rfl (fun v9 τ9 h9 => by cases h9.1) (fun E9 τ9 h9 => ?_)
    obtain ⟨h91, rfl⟩ := h9
    cases h91
    exact ⟨rfl, rfl⟩
set_option maxHeartbeats 1000000 in
set_option maxRecDepth 20000 in
theorem x_turn_v {r : Nat} (hr : r < 4) (hI : cI n El Lo Hi BL BH R mk) : zz_C mX4_turn 7 1 6 [.ref 52, .int (nI r)] (px El Lo Hi BL BH Od Ls (nI n) T) (xQ n (va_up R r (fun i k => R r k i)) mk T (.inl (some (.int (nI (sm (fun j => cnt ((fun i k => R r k i) j) n) n)))))) := by
  have hn := cI_n hI
  have h1n := cI_1 hI
  have hA := rv_lk hn (cI_R hI hr)
  · refine zz_start wPX4_turn rfl rfl (Nat.le_of_ble_eq_true rfl) ?_
    refine zz_aload_n dX4_turn_0 rfl ?_
    refine zz_iload_n dX4_turn_1 rfl ?_
    refine zz_callV1 (ci := 4) (x_ra_v hr) dX4_turn_2 zw_m_X4_55 wYX4_relationAt wDX4_relationAt rfl (by omega) px_x rfl (Nat.le_of_ble_eq_true rfl) (by decide) rfl ?_
    refine zz_astore_n dX4_turn_5 (by decide) ?_
    refine zz_aload_n dX4_turn_6 rfl ?_
    refine zz_callV0 (ci := 1) (c_reverse (show r < 8 by omega) (cI_E hI hr) hn h1n) dX4_turn_7 zw_m_X4_132 wYX1_reverse wDX1_reverse rfl (by omega) (px_rel (by omega)) rfl (Nat.le_of_ble_eq_true rfl) (by decide) rfl ?_
    refine zz_aload_n dX4_turn_10 rfl ?_
    refine zz_callV1 (ci := 1) (c_pairs (show r < 8 by omega) (cI_E hI hr) hn) dX4_turn_11 zw_m_X4_106 wYX1_pairs wDX1_pairs rfl (by omega) (px_rel (by omega)) rfl (Nat.le_of_ble_eq_true rfl) (by decide) rfl ?_
    refine zz_iret dX4_turn_14 rfl ?_
    simp only [up_at]
    refine xQ_i (by rw [lk_prs hn hA n (Nat.le_refl n)]) (cI_up hI hA rfl rfl)
set_option maxHeartbeats 1000000 in
set_option maxRecDepth 20000 in
theorem x_turn_1 {v : Int32} (h : isR v = false) : zz_C mX4_turn 7 1 6 [.ref 52, .int v] (px El Lo Hi BL BH Od Ls (nI n) T) (fun o τ => o = .inr "java/lang/IndexOutOfBoundsException" ∧ τ = px El Lo Hi BL BH Od Ls (nI n) T) := by
  · refine zz_start wPX4_turn rfl rfl (Nat.le_of_ble_eq_true rfl) ?_
    refine zz_aload_n dX4_turn_0 rfl ?_
    refine zz_iload_n dX4_turn_1 rfl ?_
    refine zz_callV (ci := 4) (x_ra_x h) dX4_turn_2 zw_m_X4_55 wYX4_relationAt wDX4_relationAt rfl (by omega) px_x rfl (Nat.le_of_ble_eq_true rfl) (by decide) (by omega) (by omega) rfl (fun v9 τ9 h9 => by cases h9.1) (fun E9 τ9 h9 => ?_)
    obtain ⟨h91, rfl⟩ := h9
    cases h91
    exact ⟨rfl, rfl⟩
set_option maxHeartbeats 1000000 in
set_option maxRecDepth 20000 in
theorem x_oppose_v {r : Nat} (hr : r < 4) (hI : cI n El Lo Hi BL BH R mk) : zz_C mX4_oppose 7 1 6 [.ref 52, .int (nI r)] (px El Lo Hi BL BH Od Ls (nI n) T) (xQ n (va_up R r (fun i k => !(R r i k))) mk T (.inl (some (.int (nI (sm (fun j => cnt ((fun i k => !(R r i k)) j) n) n)))))) := by
  have hn := cI_n hI
  have hA := lk_opp (A' := Lo r) (B' := Hi r) hn (cI_R hI hr)
  · refine zz_start wPX4_oppose rfl rfl (Nat.le_of_ble_eq_true rfl) ?_
    refine zz_aload_n dX4_oppose_0 rfl ?_
    refine zz_iload_n dX4_oppose_1 rfl ?_
    refine zz_callV1 (ci := 4) (x_ra_v hr) dX4_oppose_2 zw_m_X4_55 wYX4_relationAt wDX4_relationAt rfl (by omega) px_x rfl (Nat.le_of_ble_eq_true rfl) (by decide) rfl ?_
    refine zz_astore_n dX4_oppose_5 (by decide) ?_
    refine zz_aload_n dX4_oppose_6 rfl ?_
    refine zz_callV (ci := 1) (c_rinvert (show r < 8 by omega) (cI_E hI hr) hn) dX4_oppose_7 zw_m_X4_135 wYX1_invert wDX1_invert rfl (by omega) (px_rel (by omega)) rfl (Nat.le_of_ble_eq_true rfl) (by decide) (by omega) (by omega) rfl ?_ (fun E τ hE => by cases hE.1)
    rintro v9 τ9 ⟨hv9, B, C, hB, hC, rfl⟩
    cases hv9
    refine zz_aload_n dX4_oppose_10 rfl ?_
    refine zz_callV1 (ci := 1) (c_pairs (show r < 8 by omega) (cI_E hI hr) hn) dX4_oppose_11 zw_m_X4_106 wYX1_pairs wDX1_pairs rfl (by omega) (px_rel (by omega)) rfl (Nat.le_of_ble_eq_true rfl) (by decide) rfl ?_
    refine zz_iret dX4_oppose_14 rfl ?_
    simp only [up_at]
    rw [cI_E hI hr]
    refine xQ_i (by rw [lk_prs hn hA n (Nat.le_refl n)]) (cI_up hI hA (hB 32 (by omega)) (hC 32 (by omega)))
set_option maxHeartbeats 1000000 in
set_option maxRecDepth 20000 in
theorem x_oppose_1 {v : Int32} (h : isR v = false) : zz_C mX4_oppose 7 1 6 [.ref 52, .int v] (px El Lo Hi BL BH Od Ls (nI n) T) (fun o τ => o = .inr "java/lang/IndexOutOfBoundsException" ∧ τ = px El Lo Hi BL BH Od Ls (nI n) T) := by
  · refine zz_start wPX4_oppose rfl rfl (Nat.le_of_ble_eq_true rfl) ?_
    refine zz_aload_n dX4_oppose_0 rfl ?_
    refine zz_iload_n dX4_oppose_1 rfl ?_
    refine zz_callV (ci := 4) (x_ra_x h) dX4_oppose_2 zw_m_X4_55 wYX4_relationAt wDX4_relationAt rfl (by omega) px_x rfl (Nat.le_of_ble_eq_true rfl) (by decide) (by omega) (by omega) rfl (fun v9 τ9 h9 => by cases h9.1) (fun E9 τ9 h9 => ?_)
    obtain ⟨h91, rfl⟩ := h9
    cases h91
    exact ⟨rfl, rfl⟩
set_option maxHeartbeats 1000000 in
set_option maxRecDepth 20000 in
theorem x_close_v {r : Nat} (hr : r < 4) (b : Bool) (hI : cI n El Lo Hi BL BH R mk) : zz_C mX4_close 7 1 6 [.ref 52, .int (nI r), .int (zB b)] (px El Lo Hi BL BH Od Ls (nI n) T) (xQ n (va_up R r (fun i k => rchB (R r) n i k || (b && decide (i = k)))) mk T (.inl (some (.int (nI (sm (fun j => cnt ((fun i k => rchB (R r) n i k || (b && decide (i = k))) j) n) n)))))) := by
  have hn := cI_n hI
  have hA := clP_r hn (cI_R hI hr)
  cases b
  · replace hA := lk_c hA (R' := fun i k => rchB (R r) n i k || (false && decide (i = k))) (fun i k _ _ => by simp)
    refine zz_start wPX4_close rfl rfl (Nat.le_of_ble_eq_true rfl) ?_
    refine zz_aload_n dX4_close_0 rfl ?_
    refine zz_iload_n dX4_close_1 rfl ?_
    refine zz_callV1 (ci := 4) (x_ra_v hr) dX4_close_2 zw_m_X4_55 wYX4_relationAt wDX4_relationAt rfl (by omega) px_x rfl (Nat.le_of_ble_eq_true rfl) (by decide) rfl ?_
    refine zz_astore_n dX4_close_5 (by decide) ?_
    refine zz_aload_n dX4_close_6 rfl ?_
    refine zz_callV0 (ci := 1) (c_closeUp (show r < 8 by omega) (cI_E hI hr) hn) dX4_close_7 zw_m_X4_137 wYX1_closeUp wDX1_closeUp rfl (by omega) (px_rel (by omega)) rfl (Nat.le_of_ble_eq_true rfl) (by decide) rfl ?_
    refine zz_iload_n dX4_close_10 rfl ?_
    refine zz_if_eq (tgt := 18) dX4_close_11 (by decide) (fun _ => ?_) (fun h => absurd rfl h)
    refine zz_aload_n dX4_close_18 rfl ?_
    refine zz_callV1 (ci := 1) (c_pairs (show r < 8 by omega) (cI_E hI hr) hn) dX4_close_19 zw_m_X4_106 wYX1_pairs wDX1_pairs rfl (by omega) (px_rel (by omega)) rfl (Nat.le_of_ble_eq_true rfl) (by decide) rfl ?_
    refine zz_iret dX4_close_22 rfl ?_
    simp only [up_at]
    refine xQ_i (by rw [lk_prs hn hA n (Nat.le_refl n)]) (cI_up hI hA rfl rfl)
  · replace hA := lk_own (A' := (clP n (Lo r, Hi r) n).1) (B' := (clP n (Lo r, Hi r) n).2) hn hA
    replace hA := lk_c hA (R' := fun i k => rchB (R r) n i k || (true && decide (i = k))) (fun i k _ _ => by rw [Bool.true_and])
    refine zz_start wPX4_close rfl rfl (Nat.le_of_ble_eq_true rfl) ?_
    refine zz_aload_n dX4_close_0 rfl ?_
    refine zz_iload_n dX4_close_1 rfl ?_
    refine zz_callV1 (ci := 4) (x_ra_v hr) dX4_close_2 zw_m_X4_55 wYX4_relationAt wDX4_relationAt rfl (by omega) px_x rfl (Nat.le_of_ble_eq_true rfl) (by decide) rfl ?_
    refine zz_astore_n dX4_close_5 (by decide) ?_
    refine zz_aload_n dX4_close_6 rfl ?_
    refine zz_callV0 (ci := 1) (c_closeUp (show r < 8 by omega) (cI_E hI hr) hn) dX4_close_7 zw_m_X4_137 wYX1_closeUp wDX1_closeUp rfl (by omega) (px_rel (by omega)) rfl (Nat.le_of_ble_eq_true rfl) (by decide) rfl ?_
    refine zz_iload_n dX4_close_10 rfl ?_
    refine zz_if_eq (tgt := 18) dX4_close_11 (by decide) (fun h => absurd h (by decide)) (fun _ => ?_)
    refine zz_aload_n dX4_close_14 rfl ?_
    refine zz_callV0 (ci := 1) (c_joinOwn (show r < 8 by omega) (cI_E hI hr) hn) dX4_close_15 zw_m_X4_140 wYX1_joinOwn wDX1_joinOwn rfl (by omega) (px_rel (by omega)) rfl (Nat.le_of_ble_eq_true rfl) (by decide) rfl ?_
    refine zz_aload_n dX4_close_18 rfl ?_
    refine zz_callV1 (ci := 1) (c_pairs (show r < 8 by omega) (cI_E hI hr) hn) dX4_close_19 zw_m_X4_106 wYX1_pairs wDX1_pairs rfl (by omega) (px_rel (by omega)) rfl (Nat.le_of_ble_eq_true rfl) (by decide) rfl ?_
    refine zz_iret dX4_close_22 rfl ?_
    simp only [up_at, up_up]
    refine xQ_i (by rw [lk_prs hn hA n (Nat.le_refl n)]) (cI_up hI hA rfl rfl)
set_option maxHeartbeats 1000000 in
set_option maxRecDepth 20000 in
theorem x_close_1 {v : Int32} (h : isR v = false) (u : Int32) : zz_C mX4_close 7 1 6 [.ref 52, .int v, .int u] (px El Lo Hi BL BH Od Ls (nI n) T) (fun o τ => o = .inr "java/lang/IndexOutOfBoundsException" ∧ τ = px El Lo Hi BL BH Od Ls (nI n) T) := by
  · refine zz_start wPX4_close rfl rfl (Nat.le_of_ble_eq_true rfl) ?_
    refine zz_aload_n dX4_close_0 rfl ?_
    refine zz_iload_n dX4_close_1 rfl ?_
    refine zz_callV (ci := 4) (x_ra_x h) dX4_close_2 zw_m_X4_55 wYX4_relationAt wDX4_relationAt rfl (by omega) px_x rfl (Nat.le_of_ble_eq_true rfl) (by decide) (by omega) (by omega) rfl (fun v9 τ9 h9 => by cases h9.1) (fun E9 τ9 h9 => ?_)
    obtain ⟨h91, rfl⟩ := h9
    cases h91
    exact ⟨rfl, rfl⟩
set_option maxHeartbeats 1000000 in
set_option maxRecDepth 20000 in
theorem x_cover_v {r w : Nat} (hr : r < 4) (hw : w < 4) (hg : anb (fun k => rchB (R r) n k k) n = false) (hI : cI n El Lo Hi BL BH R mk) : zz_C mX4_cover 7 1 6 [.ref 52, .int (nI r), .int (nI w)] (px El Lo Hi BL BH Od Ls (nI n) T) (xQ n (va_up R w (cvB (rchB (R r) n) n)) mk T (.inl (some (.int (nI (sm (fun j => cnt ((cvB (rchB (R r) n) n) j) n) n)))))) := by
  have hn := cI_n hI
  have h1n := cI_1 hI
  have hA := clP_r hn (lk_cpy (L' := Lo 4) (H' := Hi 4) (cI_R hI hr))
  have hD := lk_cov (A' := Lo w) (B' := Hi w) hn hA
  have hg2 : ¬ rng1 (R r) n := fun q => by rw [ring_b.mpr q] at hg; cases hg
  · refine zz_start wPX4_cover rfl rfl (Nat.le_of_ble_eq_true rfl) ?_
    refine zz_aload_n dX4_cover_0 rfl ?_
    refine zz_iload_n dX4_cover_1 rfl ?_
    refine zz_callV1 (ci := 4) (x_ra_v hr) dX4_cover_2 zw_m_X4_55 wYX4_relationAt wDX4_relationAt rfl (by omega) px_x rfl (Nat.le_of_ble_eq_true rfl) (by decide) rfl ?_
    refine zz_astore_n dX4_cover_5 (by decide) ?_
    refine zz_aload_n dX4_cover_6 rfl ?_
    refine zz_iload_n dX4_cover_7 rfl ?_
    refine zz_callV1 (ci := 4) (x_ra_v hw) dX4_cover_8 zw_m_X4_55 wYX4_relationAt wDX4_relationAt rfl (by omega) px_x rfl (Nat.le_of_ble_eq_true rfl) (by decide) rfl ?_
    refine zz_astore dX4_cover_11 (by decide) ?_
    refine zz_aload_n dX4_cover_13 rfl ?_
    refine zz_get (ci := 4) (j := 5) zz_inX4 rfl zw_f_X4_37 rfl (by decide) dX4_cover_14 (by omega) px_x rfl ?_
    refine zz_aload_n dX4_cover_17 rfl ?_
    refine zz_callV (ci := 3) (c_longest (w := 0) (by omega) (show r < 8 by omega) (cI_E hI hr) hn (lk_cln (cI_R hI hr))) dX4_cover_18 zw_m_X4_143 wYX3_longest wDX3_longest rfl (by omega) (px_wk (by omega)) rfl (Nat.le_of_ble_eq_true rfl) (by decide) (by omega) (by omega) rfl ?_ (fun E τ hE => by cases hE.1)
    rintro v9 τ9 ⟨hv9, B, C, hB, hC, rfl⟩
    cases hv9
    generalize hz : ff (fun s => emp (lIt (Lo r) (Hi r) (alW n) (s + 1))) n 0 = z
    have hl := longest_s hn h1n (cI_R hI hr) hz
    have ez : ¬ z = n := by rcases hl with ⟨e1, e2⟩ | ⟨e1, e2, e3⟩; exact absurd e2 hg2; omega
    rw [if_neg ez]
    refine zz_iconst (v := (-1)) dX4_cover_21 (by decide) ?_
    refine zz_icmp_ne (tgt := 35) dX4_cover_22 (by decide) (fun _ => ?_) (fun h => absurd (show nI z < 0 by rw [h]; decide) (nI_pos (by omega)))
    refine zz_aload_n dX4_cover_35 rfl ?_
    refine zz_aload_n dX4_cover_36 rfl ?_
    refine zz_callV0 (ci := 4) (x_closeAside hr (cI_E hI hr) hn) dX4_cover_37 zw_m_X4_152 wYX4_closeAside wDX4_closeAside rfl (by omega) px_x rfl (Nat.le_of_ble_eq_true rfl) (by decide) rfl ?_
    refine zz_aload dX4_cover_40 rfl ?_
    refine zz_aload_n dX4_cover_42 rfl ?_
    refine zz_get (ci := 4) (j := 4) zz_inX4 rfl zw_f_X4_30 rfl (by decide) dX4_cover_43 (by omega) px_x rfl ?_
    refine zz_callV (ci := 1) (c_takeCovers (show w < 8 by omega) (c := 4) (by omega) (by omega) hn (by rw [up_at]; exact cI_E hI hr) (by rw [up_at, up_at]; exact lk_cln hA)) dX4_cover_46 zw_m_X4_155 wYX1_takeCovers wDX1_takeCovers rfl (by omega) (px_rel (by omega)) rfl (Nat.le_of_ble_eq_true rfl) (by decide) (by omega) (by omega) rfl ?_ (fun E τ hE => by cases hE.1)
    rintro v8 τ8 ⟨hv8, B2, C2, hB2, hC2, rfl⟩
    cases hv8
    refine zz_aload dX4_cover_49 rfl ?_
    refine zz_callV1 (ci := 1) (c_pairs (show w < 8 by omega) (by rw [up_at, up_at]; exact cI_E hI hr) hn) dX4_cover_51 zw_m_X4_106 wYX1_pairs wDX1_pairs rfl (by omega) (px_rel (by omega)) rfl (Nat.le_of_ble_eq_true rfl) (by decide) rfl ?_
    refine zz_iret dX4_cover_54 rfl ?_
    simp only [up_at, up_ne _ _ (show w ≠ 4 by omega)]
    refine xQ_i (by rw [lk_prs hn hD n (Nat.le_refl n)]) (cI_r (cI_4 (q := 4) hI (by omega) (El r) _ _ ((hB2 32 (by omega)).trans (hB 32 (by omega))) ((hC2 32 (by omega)).trans (hC 32 (by omega)))) hw (by rw [up_at]; exact cI_E hI hr) (fun q _ hq => up_ne _ _ hq) hD rfl rfl)
set_option maxHeartbeats 1000000 in
set_option maxRecDepth 20000 in
theorem x_cover_3 {r w : Nat} (hr : r < 4) (hw : w < 4) (hg : anb (fun k => rchB (R r) n k k) n = true) (hI : cI n El Lo Hi BL BH R mk) : zz_C mX4_cover 7 1 6 [.ref 52, .int (nI r), .int (nI w)] (px El Lo Hi BL BH Od Ls (nI n) T) (xQ n R mk T (.inr "java/lang/IllegalStateException")) := by
  have hn := cI_n hI
  have h1n := cI_1 hI
  have hg2 : rng1 (R r) n := ring_b.mp hg
  · refine zz_start wPX4_cover rfl rfl (Nat.le_of_ble_eq_true rfl) ?_
    refine zz_aload_n dX4_cover_0 rfl ?_
    refine zz_iload_n dX4_cover_1 rfl ?_
    refine zz_callV1 (ci := 4) (x_ra_v hr) dX4_cover_2 zw_m_X4_55 wYX4_relationAt wDX4_relationAt rfl (by omega) px_x rfl (Nat.le_of_ble_eq_true rfl) (by decide) rfl ?_
    refine zz_astore_n dX4_cover_5 (by decide) ?_
    refine zz_aload_n dX4_cover_6 rfl ?_
    refine zz_iload_n dX4_cover_7 rfl ?_
    refine zz_callV1 (ci := 4) (x_ra_v hw) dX4_cover_8 zw_m_X4_55 wYX4_relationAt wDX4_relationAt rfl (by omega) px_x rfl (Nat.le_of_ble_eq_true rfl) (by decide) rfl ?_
    refine zz_astore dX4_cover_11 (by decide) ?_
    refine zz_aload_n dX4_cover_13 rfl ?_
    refine zz_get (ci := 4) (j := 5) zz_inX4 rfl zw_f_X4_37 rfl (by decide) dX4_cover_14 (by omega) px_x rfl ?_
    refine zz_aload_n dX4_cover_17 rfl ?_
    refine zz_callV (ci := 3) (c_longest (w := 0) (by omega) (show r < 8 by omega) (cI_E hI hr) hn (lk_cln (cI_R hI hr))) dX4_cover_18 zw_m_X4_143 wYX3_longest wDX3_longest rfl (by omega) (px_wk (by omega)) rfl (Nat.le_of_ble_eq_true rfl) (by decide) (by omega) (by omega) rfl ?_ (fun E τ hE => by cases hE.1)
    rintro v9 τ9 ⟨hv9, B, C, hB, hC, rfl⟩
    cases hv9
    generalize hz : ff (fun s => emp (lIt (Lo r) (Hi r) (alW n) (s + 1))) n 0 = z
    have hl := longest_s hn h1n (cI_R hI hr) hz
    have ez : z = n := by rcases hl with ⟨e1, e2⟩ | ⟨e1, e2, e3⟩; exact e1; exact absurd hg2 e2
    rw [if_pos ez]
    refine zz_iconst (v := (-1)) dX4_cover_21 (by decide) ?_
    refine zz_icmp_ne (tgt := 35) dX4_cover_22 (by decide) (fun h => absurd rfl h) (fun _ => ?_)
    refine zz_throw (cls := "java/lang/IllegalStateException") (text := "the relation has a ring") (by decide +kernel) rfl rfl (by decide +kernel) zw_l_X4_147 zw_n_java_lang_IllegalStateException zz_at_ise zz_bd_ise (by decide +kernel) dX4_cover_25 dX4_cover_28 dX4_cover_29 dX4_cover_31 dX4_cover_34 (by omega) (by omega) (by omega) (Nat.le_of_ble_eq_true rfl) ?_
    exact xQ_i rfl (cI_s hI (hB 32 (by omega)) (hC 32 (by omega)))
set_option maxHeartbeats 1000000 in
set_option maxRecDepth 20000 in
theorem x_cover_1 {v : Int32} (h : isR v = false) (u : Int32) : zz_C mX4_cover 7 1 6 [.ref 52, .int v, .int u] (px El Lo Hi BL BH Od Ls (nI n) T) (fun o τ => o = .inr "java/lang/IndexOutOfBoundsException" ∧ τ = px El Lo Hi BL BH Od Ls (nI n) T) := by
  · refine zz_start wPX4_cover rfl rfl (Nat.le_of_ble_eq_true rfl) ?_
    refine zz_aload_n dX4_cover_0 rfl ?_
    refine zz_iload_n dX4_cover_1 rfl ?_
    refine zz_callV (ci := 4) (x_ra_x h) dX4_cover_2 zw_m_X4_55 wYX4_relationAt wDX4_relationAt rfl (by omega) px_x rfl (Nat.le_of_ble_eq_true rfl) (by decide) (by omega) (by omega) rfl (fun v9 τ9 h9 => by cases h9.1) (fun E9 τ9 h9 => ?_)
    obtain ⟨h91, rfl⟩ := h9
    cases h91
    exact ⟨rfl, rfl⟩
set_option maxHeartbeats 1000000 in
set_option maxRecDepth 20000 in
theorem x_cover_2 {r : Nat} (hr : r < 4) {u : Int32} (h : isR u = false) : zz_C mX4_cover 7 1 6 [.ref 52, .int (nI r), .int u] (px El Lo Hi BL BH Od Ls (nI n) T) (fun o τ => o = .inr "java/lang/IndexOutOfBoundsException" ∧ τ = px El Lo Hi BL BH Od Ls (nI n) T) := by
  · refine zz_start wPX4_cover rfl rfl (Nat.le_of_ble_eq_true rfl) ?_
    refine zz_aload_n dX4_cover_0 rfl ?_
    refine zz_iload_n dX4_cover_1 rfl ?_
    refine zz_callV1 (ci := 4) (x_ra_v hr) dX4_cover_2 zw_m_X4_55 wYX4_relationAt wDX4_relationAt rfl (by omega) px_x rfl (Nat.le_of_ble_eq_true rfl) (by decide) rfl ?_
    refine zz_astore_n dX4_cover_5 (by decide) ?_
    refine zz_aload_n dX4_cover_6 rfl ?_
    refine zz_iload_n dX4_cover_7 rfl ?_
    refine zz_callV (ci := 4) (x_ra_x h) dX4_cover_8 zw_m_X4_55 wYX4_relationAt wDX4_relationAt rfl (by omega) px_x rfl (Nat.le_of_ble_eq_true rfl) (by decide) (by omega) (by omega) rfl (fun v9 τ9 h9 => by cases h9.1) (fun E9 τ9 h9 => ?_)
    obtain ⟨h91, rfl⟩ := h9
    cases h91
    exact ⟨rfl, rfl⟩
set_option maxHeartbeats 1000000 in
set_option maxRecDepth 20000 in
theorem x_has_v {r i k : Nat} (hr : r < 4) (hi : i < n) (hk : k < n) (hI : cI n El Lo Hi BL BH R mk) : zz_C mX4_has 7 1 6 [.ref 52, .int (nI r), .int (nI i), .int (nI k)] (px El Lo Hi BL BH Od Ls (nI n) T) (xQ n R mk T (.inl (some (.int (zB (R r i k)))))) := by
  have hn := cI_n hI
  · refine zz_start wPX4_has rfl rfl (Nat.le_of_ble_eq_true rfl) ?_
    refine zz_aload_n dX4_has_0 rfl ?_
    refine zz_iload_n dX4_has_1 rfl ?_
    refine zz_callV1 (ci := 4) (x_ra_v hr) dX4_has_2 zw_m_X4_55 wYX4_relationAt wDX4_relationAt rfl (by omega) px_x rfl (Nat.le_of_ble_eq_true rfl) (by decide) rfl ?_
    refine zz_astore dX4_has_5 (by decide) ?_
    refine zz_aload_n dX4_has_7 rfl ?_
    refine zz_iload_n dX4_has_8 rfl ?_
    refine zz_callV0 (ci := 4) (x_ce_v hi hn) dX4_has_9 zw_m_X4_66 wYX4_checkElement wDX4_checkElement rfl (by omega) px_x rfl (Nat.le_of_ble_eq_true rfl) (by decide) rfl ?_
    refine zz_aload_n dX4_has_12 rfl ?_
    refine zz_iload_n dX4_has_13 rfl ?_
    refine zz_callV0 (ci := 4) (x_ce_v hk hn) dX4_has_14 zw_m_X4_66 wYX4_checkElement wDX4_checkElement rfl (by omega) px_x rfl (Nat.le_of_ble_eq_true rfl) (by decide) rfl ?_
    refine zz_aload dX4_has_17 rfl ?_
    refine zz_iload_n dX4_has_19 rfl ?_
    refine zz_iload_n dX4_has_20 rfl ?_
    refine zz_callV1 (ci := 1) (c_rholds (show r < 8 by omega) (show i < 80 by omega) _) dX4_has_21 zw_m_X4_69 wYX1_holds wDX1_holds rfl (by omega) (px_rel (by omega)) rfl (Nat.le_of_ble_eq_true rfl) (by decide) rfl ?_
    refine zz_zret dX4_has_24 rfl (by first | rfl | exact zB_nar _) ?_
    exact xQ_i (by rw [ls_hld (cI_R hI hr i hi) hn hk]) hI
set_option maxHeartbeats 1000000 in
set_option maxRecDepth 20000 in
theorem x_has_1 {v : Int32} (h : isR v = false) (w u : Int32) : zz_C mX4_has 7 1 6 [.ref 52, .int v, .int w, .int u] (px El Lo Hi BL BH Od Ls (nI n) T) (fun o τ => o = .inr "java/lang/IndexOutOfBoundsException" ∧ τ = px El Lo Hi BL BH Od Ls (nI n) T) := by
  · refine zz_start wPX4_has rfl rfl (Nat.le_of_ble_eq_true rfl) ?_
    refine zz_aload_n dX4_has_0 rfl ?_
    refine zz_iload_n dX4_has_1 rfl ?_
    refine zz_callV (ci := 4) (x_ra_x h) dX4_has_2 zw_m_X4_55 wYX4_relationAt wDX4_relationAt rfl (by omega) px_x rfl (Nat.le_of_ble_eq_true rfl) (by decide) (by omega) (by omega) rfl (fun v9 τ9 h9 => by cases h9.1) (fun E9 τ9 h9 => ?_)
    obtain ⟨h91, rfl⟩ := h9
    cases h91
    exact ⟨rfl, rfl⟩
set_option maxHeartbeats 1000000 in
set_option maxRecDepth 20000 in
theorem x_has_2 {r : Nat} (hr : r < 4) (hn : n ≤ 80) {w : Int32} (h : isE n w = false) (u : Int32) : zz_C mX4_has 7 1 6 [.ref 52, .int (nI r), .int w, .int u] (px El Lo Hi BL BH Od Ls (nI n) T) (fun o τ => o = .inr "java/lang/IndexOutOfBoundsException" ∧ τ = px El Lo Hi BL BH Od Ls (nI n) T) := by
  · refine zz_start wPX4_has rfl rfl (Nat.le_of_ble_eq_true rfl) ?_
    refine zz_aload_n dX4_has_0 rfl ?_
    refine zz_iload_n dX4_has_1 rfl ?_
    refine zz_callV1 (ci := 4) (x_ra_v hr) dX4_has_2 zw_m_X4_55 wYX4_relationAt wDX4_relationAt rfl (by omega) px_x rfl (Nat.le_of_ble_eq_true rfl) (by decide) rfl ?_
    refine zz_astore dX4_has_5 (by decide) ?_
    refine zz_aload_n dX4_has_7 rfl ?_
    refine zz_iload_n dX4_has_8 rfl ?_
    refine zz_callV (ci := 4) (x_ce_x hn h) dX4_has_9 zw_m_X4_66 wYX4_checkElement wDX4_checkElement rfl (by omega) px_x rfl (Nat.le_of_ble_eq_true rfl) (by decide) (by omega) (by omega) rfl (fun v9 τ9 h9 => by cases h9.1) (fun E9 τ9 h9 => ?_)
    obtain ⟨h91, rfl⟩ := h9
    cases h91
    exact ⟨rfl, rfl⟩
set_option maxHeartbeats 1000000 in
set_option maxRecDepth 20000 in
theorem x_has_3 {r i : Nat} (hr : r < 4) (hi : i < n) (hn : n ≤ 80) {u : Int32} (h : isE n u = false) : zz_C mX4_has 7 1 6 [.ref 52, .int (nI r), .int (nI i), .int u] (px El Lo Hi BL BH Od Ls (nI n) T) (fun o τ => o = .inr "java/lang/IndexOutOfBoundsException" ∧ τ = px El Lo Hi BL BH Od Ls (nI n) T) := by
  · refine zz_start wPX4_has rfl rfl (Nat.le_of_ble_eq_true rfl) ?_
    refine zz_aload_n dX4_has_0 rfl ?_
    refine zz_iload_n dX4_has_1 rfl ?_
    refine zz_callV1 (ci := 4) (x_ra_v hr) dX4_has_2 zw_m_X4_55 wYX4_relationAt wDX4_relationAt rfl (by omega) px_x rfl (Nat.le_of_ble_eq_true rfl) (by decide) rfl ?_
    refine zz_astore dX4_has_5 (by decide) ?_
    refine zz_aload_n dX4_has_7 rfl ?_
    refine zz_iload_n dX4_has_8 rfl ?_
    refine zz_callV0 (ci := 4) (x_ce_v hi hn) dX4_has_9 zw_m_X4_66 wYX4_checkElement wDX4_checkElement rfl (by omega) px_x rfl (Nat.le_of_ble_eq_true rfl) (by decide) rfl ?_
    refine zz_aload_n dX4_has_12 rfl ?_
    refine zz_iload_n dX4_has_13 rfl ?_
    refine zz_callV (ci := 4) (x_ce_x hn h) dX4_has_14 zw_m_X4_66 wYX4_checkElement wDX4_checkElement rfl (by omega) px_x rfl (Nat.le_of_ble_eq_true rfl) (by decide) (by omega) (by omega) rfl (fun v9 τ9 h9 => by cases h9.1) (fun E9 τ9 h9 => ?_)
    obtain ⟨h91, rfl⟩ := h9
    cases h91
    exact ⟨rfl, rfl⟩
set_option maxHeartbeats 1000000 in
set_option maxRecDepth 20000 in
theorem x_count_v {r : Nat} (hr : r < 4) (hI : cI n El Lo Hi BL BH R mk) : zz_C mX4_count 7 1 6 [.ref 52, .int (nI r)] (px El Lo Hi BL BH Od Ls (nI n) T) (xQ n R mk T (.inl (some (.int (nI (sm (fun j => cnt ((R r) j) n) n)))))) := by
  have hn := cI_n hI
  · refine zz_start wPX4_count rfl rfl (Nat.le_of_ble_eq_true rfl) ?_
    refine zz_aload_n dX4_count_0 rfl ?_
    refine zz_iload_n dX4_count_1 rfl ?_
    refine zz_callV1 (ci := 4) (x_ra_v hr) dX4_count_2 zw_m_X4_55 wYX4_relationAt wDX4_relationAt rfl (by omega) px_x rfl (Nat.le_of_ble_eq_true rfl) (by decide) rfl ?_
    refine zz_callV1 (ci := 1) (c_pairs (show r < 8 by omega) (cI_E hI hr) hn) dX4_count_5 zw_m_X4_106 wYX1_pairs wDX1_pairs rfl (by omega) (px_rel (by omega)) rfl (Nat.le_of_ble_eq_true rfl) (by decide) rfl ?_
    refine zz_iret dX4_count_8 rfl ?_
    exact xQ_i (by rw [lk_prs hn (cI_R hI hr) n (Nat.le_refl n)]) hI
set_option maxHeartbeats 1000000 in
set_option maxRecDepth 20000 in
theorem x_count_1 {v : Int32} (h : isR v = false) : zz_C mX4_count 7 1 6 [.ref 52, .int v] (px El Lo Hi BL BH Od Ls (nI n) T) (fun o τ => o = .inr "java/lang/IndexOutOfBoundsException" ∧ τ = px El Lo Hi BL BH Od Ls (nI n) T) := by
  · refine zz_start wPX4_count rfl rfl (Nat.le_of_ble_eq_true rfl) ?_
    refine zz_aload_n dX4_count_0 rfl ?_
    refine zz_iload_n dX4_count_1 rfl ?_
    refine zz_callV (ci := 4) (x_ra_x h) dX4_count_2 zw_m_X4_55 wYX4_relationAt wDX4_relationAt rfl (by omega) px_x rfl (Nat.le_of_ble_eq_true rfl) (by decide) (by omega) (by omega) rfl (fun v9 τ9 h9 => by cases h9.1) (fun E9 τ9 h9 => ?_)
    obtain ⟨h91, rfl⟩ := h9
    cases h91
    exact ⟨rfl, rfl⟩
set_option maxHeartbeats 1000000 in
set_option maxRecDepth 20000 in
theorem x_countOf_v {r i : Nat} (hr : r < 4) (hi : i < n) (hI : cI n El Lo Hi BL BH R mk) : zz_C mX4_countOf 7 1 6 [.ref 52, .int (nI r), .int (nI i)] (px El Lo Hi BL BH Od Ls (nI n) T) (xQ n R mk T (.inl (some (.int (nI (cnt (R r i) n)))))) := by
  have hn := cI_n hI
  · refine zz_start wPX4_countOf rfl rfl (Nat.le_of_ble_eq_true rfl) ?_
    refine zz_aload_n dX4_countOf_0 rfl ?_
    refine zz_iload_n dX4_countOf_1 rfl ?_
    refine zz_callV1 (ci := 4) (x_ra_v hr) dX4_countOf_2 zw_m_X4_55 wYX4_relationAt wDX4_relationAt rfl (by omega) px_x rfl (Nat.le_of_ble_eq_true rfl) (by decide) rfl ?_
    refine zz_astore_n dX4_countOf_5 (by decide) ?_
    refine zz_aload_n dX4_countOf_6 rfl ?_
    refine zz_iload_n dX4_countOf_7 rfl ?_
    refine zz_callV0 (ci := 4) (x_ce_v hi hn) dX4_countOf_8 zw_m_X4_66 wYX4_checkElement wDX4_checkElement rfl (by omega) px_x rfl (Nat.le_of_ble_eq_true rfl) (by decide) rfl ?_
    refine zz_aload_n dX4_countOf_11 rfl ?_
    refine zz_iload_n dX4_countOf_12 rfl ?_
    refine zz_callV1 (ci := 1) (c_sizeOf (show r < 8 by omega) (show i < 80 by omega)) dX4_countOf_13 zw_m_X4_88 wYX1_sizeOf wDX1_sizeOf rfl (by omega) (px_rel (by omega)) rfl (Nat.le_of_ble_eq_true rfl) (by decide) rfl ?_
    refine zz_iret dX4_countOf_16 rfl ?_
    exact xQ_i (by rw [ls_szr hn (cI_R hI hr i hi)]) hI
set_option maxHeartbeats 1000000 in
set_option maxRecDepth 20000 in
theorem x_countOf_1 {v : Int32} (h : isR v = false) (w : Int32) : zz_C mX4_countOf 7 1 6 [.ref 52, .int v, .int w] (px El Lo Hi BL BH Od Ls (nI n) T) (fun o τ => o = .inr "java/lang/IndexOutOfBoundsException" ∧ τ = px El Lo Hi BL BH Od Ls (nI n) T) := by
  · refine zz_start wPX4_countOf rfl rfl (Nat.le_of_ble_eq_true rfl) ?_
    refine zz_aload_n dX4_countOf_0 rfl ?_
    refine zz_iload_n dX4_countOf_1 rfl ?_
    refine zz_callV (ci := 4) (x_ra_x h) dX4_countOf_2 zw_m_X4_55 wYX4_relationAt wDX4_relationAt rfl (by omega) px_x rfl (Nat.le_of_ble_eq_true rfl) (by decide) (by omega) (by omega) rfl (fun v9 τ9 h9 => by cases h9.1) (fun E9 τ9 h9 => ?_)
    obtain ⟨h91, rfl⟩ := h9
    cases h91
    exact ⟨rfl, rfl⟩
set_option maxHeartbeats 1000000 in
set_option maxRecDepth 20000 in
theorem x_countOf_2 {r : Nat} (hr : r < 4) (hn : n ≤ 80) {w : Int32} (h : isE n w = false) : zz_C mX4_countOf 7 1 6 [.ref 52, .int (nI r), .int w] (px El Lo Hi BL BH Od Ls (nI n) T) (fun o τ => o = .inr "java/lang/IndexOutOfBoundsException" ∧ τ = px El Lo Hi BL BH Od Ls (nI n) T) := by
  · refine zz_start wPX4_countOf rfl rfl (Nat.le_of_ble_eq_true rfl) ?_
    refine zz_aload_n dX4_countOf_0 rfl ?_
    refine zz_iload_n dX4_countOf_1 rfl ?_
    refine zz_callV1 (ci := 4) (x_ra_v hr) dX4_countOf_2 zw_m_X4_55 wYX4_relationAt wDX4_relationAt rfl (by omega) px_x rfl (Nat.le_of_ble_eq_true rfl) (by decide) rfl ?_
    refine zz_astore_n dX4_countOf_5 (by decide) ?_
    refine zz_aload_n dX4_countOf_6 rfl ?_
    refine zz_iload_n dX4_countOf_7 rfl ?_
    refine zz_callV (ci := 4) (x_ce_x hn h) dX4_countOf_8 zw_m_X4_66 wYX4_checkElement wDX4_checkElement rfl (by omega) px_x rfl (Nat.le_of_ble_eq_true rfl) (by decide) (by omega) (by omega) rfl (fun v9 τ9 h9 => by cases h9.1) (fun E9 τ9 h9 => ?_)
    obtain ⟨h91, rfl⟩ := h9
    cases h91
    exact ⟨rfl, rfl⟩
end ZZX4C
