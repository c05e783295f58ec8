section ZZX4E
variable {El : Nat → Int32} {Lo Hi : Nat → Nat → Int64} {BL BH : Nat → Int64} {Od : Nat → Nat → Int32} {Ls : Nat → Int32} {n : Nat} {R : Nat → Nat → Nat → Bool} {mk : Nat → Bool} {T : zz_St}
set_option maxHeartbeats 1000000 in
set_option maxRecDepth 20000 in
theorem x_steps_v {r i k : Nat} (hr : r < 4) (hi : i < n) (hk : k < n) (hI : cI n El Lo Hi BL BH R mk) : zz_C mX4_steps 7 1 6 [.ref 52, .int (nI r), .int (nI i), .int (nI k)] (px El Lo Hi BL BH Od Ls (nI n) T) (fun o τ => ∃ v, stS (R r) n i k v ∧ xQ n R mk T (.inl (some (.int v))) o τ) := by
  have hn := cI_n hI
  · refine zz_start wPX4_steps rfl rfl (Nat.le_of_ble_eq_true rfl) ?_
    refine zz_aload_n dX4_steps_0 rfl ?_
    refine zz_iload_n dX4_steps_1 rfl ?_
    refine zz_callV1 (ci := 4) (x_ra_v hr) dX4_steps_2 zw_m_X4_55 wYX4_relationAt wDX4_relationAt rfl (by omega) px_x rfl (Nat.le_of_ble_eq_true rfl) (by decide) rfl ?_
    refine zz_astore dX4_steps_5 (by decide) ?_
    refine zz_aload_n dX4_steps_7 rfl ?_
    refine zz_iload_n dX4_steps_8 rfl ?_
    refine zz_callV0 (ci := 4) (x_ce_v hi hn) dX4_steps_9 zw_m_X4_66 wYX4_checkElement wDX4_checkElement rfl (by omega) px_x rfl (Nat.le_of_ble_eq_true rfl) (by decide) rfl ?_
    refine zz_aload_n dX4_steps_12 rfl ?_
    refine zz_iload_n dX4_steps_13 rfl ?_
    refine zz_callV0 (ci := 4) (x_ce_v hk hn) dX4_steps_14 zw_m_X4_66 wYX4_checkElement wDX4_checkElement rfl (by omega) px_x rfl (Nat.le_of_ble_eq_true rfl) (by decide) rfl ?_
    refine zz_aload_n dX4_steps_17 rfl ?_
    refine zz_get (ci := 4) (j := 5) zz_inX4 rfl zw_f_X4_37 rfl (by decide) dX4_steps_18 (by omega) px_x rfl ?_
    refine zz_aload dX4_steps_21 rfl ?_
    refine zz_iload_n dX4_steps_23 rfl ?_
    refine zz_iload_n dX4_steps_24 rfl ?_
    refine zz_callV (ci := 3) (c_stepsBetween (w := 0) (by omega) (show r < 8 by omega) (cI_E hI hr) hn (lk_cln (cI_R hI hr)) hi (show k < 80 by omega)) dX4_steps_25 zw_m_X4_193 wYX3_stepsBetween wDX3_stepsBetween rfl (by omega) (px_wk (by omega)) rfl (Nat.le_of_ble_eq_true rfl) (by decide) (by omega) (by omega) rfl ?_ (fun E τ hE => by cases hE.1)
    rintro v9 τ9 ⟨hv9, B, C, hB, hC, rfl⟩
    cases hv9
    refine zz_iret dX4_steps_28 rfl ?_
    exact ⟨_, steps_s hn (cI_R hI hr) hi hk rfl, xQ_i rfl (cI_s hI (hB 32 (by omega)) (hC 32 (by omega)))⟩
set_option maxHeartbeats 1000000 in
set_option maxRecDepth 20000 in
theorem x_steps_1 {v : Int32} (h : isR v = false) (w u : Int32) : zz_C mX4_steps 7 1 6 [.ref 52, .int v, .int w, .int u] (px El Lo Hi BL BH Od Ls (nI n) T) (fun o τ => o = .inr "java/lang/IndexOutOfBoundsException" ∧ τ = px El Lo Hi BL BH Od Ls (nI n) T) := by
  · refine zz_start wPX4_steps rfl rfl (Nat.le_of_ble_eq_true rfl) ?_
    refine zz_aload_n dX4_steps_0 rfl ?_
    refine zz_iload_n dX4_steps_1 rfl ?_
    refine zz_callV (ci := 4) (x_ra_x h) dX4_steps_2 zw_m_X4_55 wYX4_relationAt wDX4_relationAt rfl (by omega) px_x rfl (Nat.le_of_ble_eq_true rfl) (by decide) (by omega) (by omega) rfl (fun v9 τ9 h9 => by cases h9.1) (fun E9 τ9 h9 => ?_)
    obtain ⟨h91, rfl⟩ := h9
    cases h91
    exact ⟨rfl, rfl⟩
set_option maxHeartbeats 1000000 in
set_option maxRecDepth 20000 in
theorem x_steps_2 {r : Nat} (hr : r < 4) (hn : n ≤ 80) {w : Int32} (h : isE n w = false) (u : Int32) : zz_C mX4_steps 7 1 6 [.ref 52, .int (nI r), .int w, .int u] (px El Lo Hi BL BH Od Ls (nI n) T) (fun o τ => o = .inr "java/lang/IndexOutOfBoundsException" ∧ τ = px El Lo Hi BL BH Od Ls (nI n) T) := by
  · refine zz_start wPX4_steps rfl rfl (Nat.le_of_ble_eq_true rfl) ?_
    refine zz_aload_n dX4_steps_0 rfl ?_
    refine zz_iload_n dX4_steps_1 rfl ?_
    refine zz_callV1 (ci := 4) (x_ra_v hr) dX4_steps_2 zw_m_X4_55 wYX4_relationAt wDX4_relationAt rfl (by omega) px_x rfl (Nat.le_of_ble_eq_true rfl) (by decide) rfl ?_
    refine zz_astore dX4_steps_5 (by decide) ?_
    refine zz_aload_n dX4_steps_7 rfl ?_
    refine zz_iload_n dX4_steps_8 rfl ?_
    refine zz_callV (ci := 4) (x_ce_x hn h) dX4_steps_9 zw_m_X4_66 wYX4_checkElement wDX4_checkElement rfl (by omega) px_x rfl (Nat.le_of_ble_eq_true rfl) (by decide) (by omega) (by omega) rfl (fun v9 τ9 h9 => by cases h9.1) (fun E9 τ9 h9 => ?_)
    obtain ⟨h91, rfl⟩ := h9
    cases h91
    exact ⟨rfl, rfl⟩
set_option maxHeartbeats 1000000 in
set_option maxRecDepth 20000 in
theorem x_steps_3 {r i : Nat} (hr : r < 4) (hi : i < n) (hn : n ≤ 80) {u : Int32} (h : isE n u = false) : zz_C mX4_steps 7 1 6 [.ref 52, .int (nI r), .int (nI i), .int u] (px El Lo Hi BL BH Od Ls (nI n) T) (fun o τ => o = .inr "java/lang/IndexOutOfBoundsException" ∧ τ = px El Lo Hi BL BH Od Ls (nI n) T) := by
  · refine zz_start wPX4_steps rfl rfl (Nat.le_of_ble_eq_true rfl) ?_
    refine zz_aload_n dX4_steps_0 rfl ?_
    refine zz_iload_n dX4_steps_1 rfl ?_
    refine zz_callV1 (ci := 4) (x_ra_v hr) dX4_steps_2 zw_m_X4_55 wYX4_relationAt wDX4_relationAt rfl (by omega) px_x rfl (Nat.le_of_ble_eq_true rfl) (by decide) rfl ?_
    refine zz_astore dX4_steps_5 (by decide) ?_
    refine zz_aload_n dX4_steps_7 rfl ?_
    refine zz_iload_n dX4_steps_8 rfl ?_
    refine zz_callV0 (ci := 4) (x_ce_v hi hn) dX4_steps_9 zw_m_X4_66 wYX4_checkElement wDX4_checkElement rfl (by omega) px_x rfl (Nat.le_of_ble_eq_true rfl) (by decide) rfl ?_
    refine zz_aload_n dX4_steps_12 rfl ?_
    refine zz_iload_n dX4_steps_13 rfl ?_
    refine zz_callV (ci := 4) (x_ce_x hn h) dX4_steps_14 zw_m_X4_66 wYX4_checkElement wDX4_checkElement rfl (by omega) px_x rfl (Nat.le_of_ble_eq_true rfl) (by decide) (by omega) (by omega) rfl (fun v9 τ9 h9 => by cases h9.1) (fun E9 τ9 h9 => ?_)
    obtain ⟨h91, rfl⟩ := h9
    cases h91
    exact ⟨rfl, rfl⟩
set_option maxHeartbeats 1000000 in
set_option maxRecDepth 20000 in
theorem x_classOf_v {r e : Nat} (hr : r < 4) (he : e < n) (hI : cI n El Lo Hi BL BH R mk) : zz_C mX4_classOf 7 1 6 [.ref 52, .int (nI r), .int (nI e)] (px El Lo Hi BL BH Od Ls (nI n) T) (xQ n R mk T (.inl (some (.int (nI (lsN (rchB (R r) n) e)))))) := by
  have hn := cI_n hI
  have hA := clP_r hn (lk_cpy (L' := Lo 4) (H' := Hi 4) (cI_R hI hr))
  · refine zz_start wPX4_classOf rfl rfl (Nat.le_of_ble_eq_true rfl) ?_
    refine zz_aload_n dX4_classOf_0 rfl ?_
    refine zz_iload_n dX4_classOf_1 rfl ?_
    refine zz_callV1 (ci := 4) (x_ra_v hr) dX4_classOf_2 zw_m_X4_55 wYX4_relationAt wDX4_relationAt rfl (by omega) px_x rfl (Nat.le_of_ble_eq_true rfl) (by decide) rfl ?_
    refine zz_astore_n dX4_classOf_5 (by decide) ?_
    refine zz_aload_n dX4_classOf_6 rfl ?_
    refine zz_iload_n dX4_classOf_7 rfl ?_
    refine zz_callV0 (ci := 4) (x_ce_v he hn) dX4_classOf_8 zw_m_X4_66 wYX4_checkElement wDX4_checkElement rfl (by omega) px_x rfl (Nat.le_of_ble_eq_true rfl) (by decide) rfl ?_
    refine zz_aload_n dX4_classOf_11 rfl ?_
    refine zz_aload_n dX4_classOf_12 rfl ?_
    refine zz_callV0 (ci := 4) (x_closeAside hr (cI_E hI hr) hn) dX4_classOf_13 zw_m_X4_152 wYX4_closeAside wDX4_closeAside rfl (by omega) px_x rfl (Nat.le_of_ble_eq_true rfl) (by decide) rfl ?_
    refine zz_aload_n dX4_classOf_16 rfl ?_
    refine zz_get (ci := 4) (j := 4) zz_inX4 rfl zw_f_X4_30 rfl (by decide) dX4_classOf_17 (by omega) px_x rfl ?_
    refine zz_iload_n dX4_classOf_20 rfl ?_
    refine zz_callV1 (ci := 1) (c_leastOfClass (show 4 < 8 by omega) (show e < 80 by omega)) dX4_classOf_21 zw_m_X4_197 wYX1_leastOfClass wDX1_leastOfClass rfl (by omega) (px_rel (by omega)) rfl (Nat.le_of_ble_eq_true rfl) (by decide) rfl ?_
    refine zz_iret dX4_classOf_24 rfl ?_
    simp only [up_at]
    exact xQ_i (by rw [ls_lsN hn hA he]) (cI_4 (q := 4) hI (by omega) _ _ _ rfl rfl)
set_option maxHeartbeats 1000000 in
set_option maxRecDepth 20000 in
theorem x_classOf_1 {v : Int32} (h : isR v = false) (w : Int32) : zz_C mX4_classOf 7 1 6 [.ref 52, .int v, .int w] (px El Lo Hi BL BH Od Ls (nI n) T) (fun o τ => o = .inr "java/lang/IndexOutOfBoundsException" ∧ τ = px El Lo Hi BL BH Od Ls (nI n) T) := by
  · refine zz_start wPX4_classOf rfl rfl (Nat.le_of_ble_eq_true rfl) ?_
    refine zz_aload_n dX4_classOf_0 rfl ?_
    refine zz_iload_n dX4_classOf_1 rfl ?_
    refine zz_callV (ci := 4) (x_ra_x h) dX4_classOf_2 zw_m_X4_55 wYX4_relationAt wDX4_relationAt rfl (by omega) px_x rfl (Nat.le_of_ble_eq_true rfl) (by decide) (by omega) (by omega) rfl (fun v9 τ9 h9 => by cases h9.1) (fun E9 τ9 h9 => ?_)
    obtain ⟨h91, rfl⟩ := h9
    cases h91
    exact ⟨rfl, rfl⟩
set_option maxHeartbeats 1000000 in
set_option maxRecDepth 20000 in
theorem x_classOf_2 {r : Nat} (hr : r < 4) (hn : n ≤ 80) {w : Int32} (h : isE n w = false) : zz_C mX4_classOf 7 1 6 [.ref 52, .int (nI r), .int w] (px El Lo Hi BL BH Od Ls (nI n) T) (fun o τ => o = .inr "java/lang/IndexOutOfBoundsException" ∧ τ = px El Lo Hi BL BH Od Ls (nI n) T) := by
  · refine zz_start wPX4_classOf rfl rfl (Nat.le_of_ble_eq_true rfl) ?_
    refine zz_aload_n dX4_classOf_0 rfl ?_
    refine zz_iload_n dX4_classOf_1 rfl ?_
    refine zz_callV1 (ci := 4) (x_ra_v hr) dX4_classOf_2 zw_m_X4_55 wYX4_relationAt wDX4_relationAt rfl (by omega) px_x rfl (Nat.le_of_ble_eq_true rfl) (by decide) rfl ?_
    refine zz_astore_n dX4_classOf_5 (by decide) ?_
    refine zz_aload_n dX4_classOf_6 rfl ?_
    refine zz_iload_n dX4_classOf_7 rfl ?_
    refine zz_callV (ci := 4) (x_ce_x hn h) dX4_classOf_8 zw_m_X4_66 wYX4_checkElement wDX4_checkElement rfl (by omega) px_x rfl (Nat.le_of_ble_eq_true rfl) (by decide) (by omega) (by omega) rfl (fun v9 τ9 h9 => by cases h9.1) (fun E9 τ9 h9 => ?_)
    obtain ⟨h91, rfl⟩ := h9
    cases h91
    exact ⟨rfl, rfl⟩
set_option maxHeartbeats 1000000 in
set_option maxRecDepth 20000 in
theorem x_classes_v {r : Nat} (hr : r < 4) (hI : cI n El Lo Hi BL BH R mk) : zz_C mX4_classes 7 1 6 [.ref 52, .int (nI r)] (px El Lo Hi BL BH Od Ls (nI n) T) (xQ n R mk T (.inl (some (.int (nI (cnt (fun k => decide (lsN (rchB (R r) n) k = k)) n)))))) := by
  have hn := cI_n hI
  have hA := clP_r hn (lk_cpy (L' := Lo 4) (H' := Hi 4) (cI_R hI hr))
  · refine zz_start wPX4_classes rfl rfl (Nat.le_of_ble_eq_true rfl) ?_
    refine zz_aload_n dX4_classes_0 rfl ?_
    refine zz_iload_n dX4_classes_1 rfl ?_
    refine zz_callV1 (ci := 4) (x_ra_v hr) dX4_classes_2 zw_m_X4_55 wYX4_relationAt wDX4_relationAt rfl (by omega) px_x rfl (Nat.le_of_ble_eq_true rfl) (by decide) rfl ?_
    refine zz_astore_n dX4_classes_5 (by decide) ?_
    refine zz_aload_n dX4_classes_6 rfl ?_
    refine zz_aload_n dX4_classes_7 rfl ?_
    refine zz_callV0 (ci := 4) (x_closeAside hr (cI_E hI hr) hn) dX4_classes_8 zw_m_X4_152 wYX4_closeAside wDX4_closeAside rfl (by omega) px_x rfl (Nat.le_of_ble_eq_true rfl) (by decide) rfl ?_
    refine zz_aload_n dX4_classes_11 rfl ?_
    refine zz_get (ci := 4) (j := 4) zz_inX4 rfl zw_f_X4_30 rfl (by decide) dX4_classes_12 (by omega) px_x rfl ?_
    refine zz_callV1 (ci := 1) (c_classesInside (show 4 < 8 by omega) (by rw [up_at]; exact cI_E hI hr) hn) dX4_classes_15 zw_m_X4_200 wYX1_classesInside wDX1_classesInside rfl (by omega) (px_rel (by omega)) rfl (Nat.le_of_ble_eq_true rfl) (by decide) rfl ?_
    refine zz_iret dX4_classes_18 rfl ?_
    simp only [up_at]
    exact xQ_i (by rw [cnt_c (fun k hk => by rw [ls_lsN hn hA hk])]) (cI_4 (q := 4) hI (by omega) _ _ _ rfl rfl)
set_option maxHeartbeats 1000000 in
set_option maxRecDepth 20000 in
theorem x_classes_1 {v : Int32} (h : isR v = false) : zz_C mX4_classes 7 1 6 [.ref 52, .int v] (px El Lo Hi BL BH Od Ls (nI n) T) (fun o τ => o = .inr "java/lang/IndexOutOfBoundsException" ∧ τ = px El Lo Hi BL BH Od Ls (nI n) T) := by
  · refine zz_start wPX4_classes rfl rfl (Nat.le_of_ble_eq_true rfl) ?_
    refine zz_aload_n dX4_classes_0 rfl ?_
    refine zz_iload_n dX4_classes_1 rfl ?_
    refine zz_callV (ci := 4) (x_ra_x h) dX4_classes_2 zw_m_X4_55 wYX4_relationAt wDX4_relationAt rfl (by omega) px_x rfl (Nat.le_of_ble_eq_true rfl) (by decide) (by omega) (by omega) rfl (fun v9 τ9 h9 => by cases h9.1) (fun E9 τ9 h9 => ?_)
    obtain ⟨h91, rfl⟩ := h9
    cases h91
    exact ⟨rfl, rfl⟩
set_option maxHeartbeats 1000000 in
set_option maxRecDepth 20000 in
theorem x_hasRing_v {r : Nat} (hr : r < 4) (hI : cI n El Lo Hi BL BH R mk) : zz_C mX4_hasRing 7 1 6 [.ref 52, .int (nI r)] (px El Lo Hi BL BH Od Ls (nI n) T) (xQ n R mk T (.inl (some (.int (zB (anb (fun k => rchB (R r) n k k) n)))))) := by
  have hn := cI_n hI
  have h1n := cI_1 hI
  cases hg : anb (fun k => rchB (R r) n k k) n
  · have hg2 : ¬ rng1 (R r) n := fun q => by rw [ring_b.mpr q] at hg; cases hg
    refine zz_start wPX4_hasRing rfl rfl (Nat.le_of_ble_eq_true rfl) ?_
    refine zz_aload_n dX4_hasRing_0 rfl ?_
    refine zz_get (ci := 4) (j := 5) zz_inX4 rfl zw_f_X4_37 rfl (by decide) dX4_hasRing_1 (by omega) px_x rfl ?_
    refine zz_aload_n dX4_hasRing_4 rfl ?_
    refine zz_iload_n dX4_hasRing_5 rfl ?_
    refine zz_callV1 (ci := 4) (x_ra_v hr) dX4_hasRing_6 zw_m_X4_55 wYX4_relationAt wDX4_relationAt rfl (by omega) px_x rfl (Nat.le_of_ble_eq_true rfl) (by decide) rfl ?_
    refine zz_callV (ci := 3) (c_longest (w := 0) (by omega) (show r < 8 by omega) (cI_E hI hr) hn (lk_cln (cI_R hI hr))) dX4_hasRing_9 zw_m_X4_143 wYX3_longest wDX3_longest rfl (by omega) (px_wk (by omega)) rfl (Nat.le_of_ble_eq_true rfl) (by decide) (by omega) (by omega) rfl ?_ (fun E τ hE => by cases hE.1)
    rintro v9 τ9 ⟨hv9, B, C, hB, hC, rfl⟩
    cases hv9
    generalize hz : ff (fun s => emp (lIt (Lo r) (Hi r) (alW n) (s + 1))) n 0 = z
    have hl := longest_s hn h1n (cI_R hI hr) hz
    have ez : ¬ z = n := by rcases hl with ⟨e1, e2⟩ | ⟨e1, e2, e3⟩; exact absurd e2 hg2; omega
    rw [if_neg ez]
    refine zz_iconst (v := (-1)) dX4_hasRing_12 (by decide) ?_
    refine zz_icmp_ne (tgt := 20) dX4_hasRing_13 (by decide) (fun _ => ?_) (fun h => absurd (show nI z < 0 by rw [h]; decide) (nI_pos (by omega)))
    refine zz_iconst (v := 0) dX4_hasRing_20 (by decide) ?_
    refine zz_zret dX4_hasRing_21 rfl (by first | rfl | exact zB_nar _) ?_
    exact xQ_i rfl (cI_s hI (hB 32 (by omega)) (hC 32 (by omega)))
  · have hg2 : rng1 (R r) n := ring_b.mp hg
    refine zz_start wPX4_hasRing rfl rfl (Nat.le_of_ble_eq_true rfl) ?_
    refine zz_aload_n dX4_hasRing_0 rfl ?_
    refine zz_get (ci := 4) (j := 5) zz_inX4 rfl zw_f_X4_37 rfl (by decide) dX4_hasRing_1 (by omega) px_x rfl ?_
    refine zz_aload_n dX4_hasRing_4 rfl ?_
    refine zz_iload_n dX4_hasRing_5 rfl ?_
    refine zz_callV1 (ci := 4) (x_ra_v hr) dX4_hasRing_6 zw_m_X4_55 wYX4_relationAt wDX4_relationAt rfl (by omega) px_x rfl (Nat.le_of_ble_eq_true rfl) (by decide) rfl ?_
    refine zz_callV (ci := 3) (c_longest (w := 0) (by omega) (show r < 8 by omega) (cI_E hI hr) hn (lk_cln (cI_R hI hr))) dX4_hasRing_9 zw_m_X4_143 wYX3_longest wDX3_longest rfl (by omega) (px_wk (by omega)) rfl (Nat.le_of_ble_eq_true rfl) (by decide) (by omega) (by omega) rfl ?_ (fun E τ hE => by cases hE.1)
    rintro v9 τ9 ⟨hv9, B, C, hB, hC, rfl⟩
    cases hv9
    generalize hz : ff (fun s => emp (lIt (Lo r) (Hi r) (alW n) (s + 1))) n 0 = z
    have hl := longest_s hn h1n (cI_R hI hr) hz
    have ez : z = n := by rcases hl with ⟨e1, e2⟩ | ⟨e1, e2, e3⟩; exact e1; exact absurd hg2 e2
    rw [if_pos ez]
    refine zz_iconst (v := (-1)) dX4_hasRing_12 (by decide) ?_
    refine zz_icmp_ne (tgt := 20) dX4_hasRing_13 (by decide) (fun h => absurd rfl h) (fun _ => ?_)
    refine zz_iconst (v := 1) dX4_hasRing_16 (by decide) ?_
    refine zz_goto (tgt := 21) dX4_hasRing_17 (by decide) ?_
    refine zz_zret dX4_hasRing_21 rfl (by first | rfl | exact zB_nar _) ?_
    exact xQ_i rfl (cI_s hI (hB 32 (by omega)) (hC 32 (by omega)))
set_option maxHeartbeats 1000000 in
set_option maxRecDepth 20000 in
theorem x_hasRing_1 {v : Int32} (h : isR v = false) : zz_C mX4_hasRing 7 1 6 [.ref 52, .int v] (px El Lo Hi BL BH Od Ls (nI n) T) (fun o τ => o = .inr "java/lang/IndexOutOfBoundsException" ∧ τ = px El Lo Hi BL BH Od Ls (nI n) T) := by
  · refine zz_start wPX4_hasRing rfl rfl (Nat.le_of_ble_eq_true rfl) ?_
    refine zz_aload_n dX4_hasRing_0 rfl ?_
    refine zz_get (ci := 4) (j := 5) zz_inX4 rfl zw_f_X4_37 rfl (by decide) dX4_hasRing_1 (by omega) px_x rfl ?_
    refine zz_aload_n dX4_hasRing_4 rfl ?_
    refine zz_iload_n dX4_hasRing_5 rfl ?_
    refine zz_callV (ci := 4) (x_ra_x h) dX4_hasRing_6 zw_m_X4_55 wYX4_relationAt wDX4_relationAt rfl (by omega) px_x rfl (Nat.le_of_ble_eq_true rfl) (by decide) (by omega) (by omega) rfl (fun v9 τ9 h9 => by cases h9.1) (fun E9 τ9 h9 => ?_)
    obtain ⟨h91, rfl⟩ := h9
    cases h91
    exact ⟨rfl, rfl⟩
set_option maxHeartbeats 1000000 in
set_option maxRecDepth 20000 in
theorem x_longestWalk_v {r : Nat} (hr : r < 4) (hg : ¬ rng1 (R r) n) (hI : cI n El Lo Hi BL BH R mk) : zz_C mX4_longestWalk 7 1 6 [.ref 52, .int (nI r)] (px El Lo Hi BL BH Od Ls (nI n) T) (fun o τ => ∃ z, z ≤ n ∧ lwS (R r) n z ∧ xQ n R mk T (.inl (some (.int (nI z)))) o τ) := by
  have hn := cI_n hI
  have h1n := cI_1 hI
  have hg2 := hg
  · refine zz_start wPX4_longestWalk rfl rfl (Nat.le_of_ble_eq_true rfl) ?_
    refine zz_aload_n dX4_longestWalk_0 rfl ?_
    refine zz_get (ci := 4) (j := 5) zz_inX4 rfl zw_f_X4_37 rfl (by decide) dX4_longestWalk_1 (by omega) px_x rfl ?_
    refine zz_aload_n dX4_longestWalk_4 rfl ?_
    refine zz_iload_n dX4_longestWalk_5 rfl ?_
    refine zz_callV1 (ci := 4) (x_ra_v hr) dX4_longestWalk_6 zw_m_X4_55 wYX4_relationAt wDX4_relationAt rfl (by omega) px_x rfl (Nat.le_of_ble_eq_true rfl) (by decide) rfl ?_
    refine zz_callV (ci := 3) (c_longest (w := 0) (by omega) (show r < 8 by omega) (cI_E hI hr) hn (lk_cln (cI_R hI hr))) dX4_longestWalk_9 zw_m_X4_143 wYX3_longest wDX3_longest rfl (by omega) (px_wk (by omega)) rfl (Nat.le_of_ble_eq_true rfl) (by decide) (by omega) (by omega) rfl ?_ (fun E τ hE => by cases hE.1)
    rintro v9 τ9 ⟨hv9, B, C, hB, hC, rfl⟩
    cases hv9
    generalize hz : ff (fun s => emp (lIt (Lo r) (Hi r) (alW n) (s + 1))) n 0 = z
    have hl := longest_s hn h1n (cI_R hI hr) hz
    have ez : ¬ z = n := by rcases hl with ⟨e1, e2⟩ | ⟨e1, e2, e3⟩; exact absurd e2 hg2; omega
    have hlw : lwS (R r) n z := by rcases hl with ⟨e1, e2⟩ | ⟨e1, e2, e3⟩; exact absurd e2 hg2; exact e3
    have hzn : z ≤ n := by rcases hl with ⟨e1, e2⟩ | ⟨e1, e2, e3⟩ <;> omega
    rw [if_neg ez]
    refine zz_istore_n dX4_longestWalk_12 (by decide) ?_
    refine zz_iload_n dX4_longestWalk_13 rfl ?_
    refine zz_iconst (v := (-1)) dX4_longestWalk_14 (by decide) ?_
    refine zz_icmp_ne (tgt := 28) dX4_longestWalk_15 (by decide) (fun _ => ?_) (fun h => absurd (show nI z < 0 by rw [h]; decide) (nI_pos (by omega)))
    refine zz_iload_n dX4_longestWalk_28 rfl ?_
    refine zz_iret dX4_longestWalk_29 rfl ?_
    exact ⟨z, hzn, hlw, xQ_i rfl (cI_s hI (hB 32 (by omega)) (hC 32 (by omega)))⟩
set_option maxHeartbeats 1000000 in
set_option maxRecDepth 20000 in
theorem x_longestWalk_2 {r : Nat} (hr : r < 4) (hg : rng1 (R r) n) (hI : cI n El Lo Hi BL BH R mk) : zz_C mX4_longestWalk 7 1 6 [.ref 52, .int (nI r)] (px El Lo Hi BL BH Od Ls (nI n) T) (xQ n R mk T (.inr "java/lang/IllegalStateException")) := by
  have hn := cI_n hI
  have h1n := cI_1 hI
  have hg2 := hg
  · refine zz_start wPX4_longestWalk rfl rfl (Nat.le_of_ble_eq_true rfl) ?_
    refine zz_aload_n dX4_longestWalk_0 rfl ?_
    refine zz_get (ci := 4) (j := 5) zz_inX4 rfl zw_f_X4_37 rfl (by decide) dX4_longestWalk_1 (by omega) px_x rfl ?_
    refine zz_aload_n dX4_longestWalk_4 rfl ?_
    refine zz_iload_n dX4_longestWalk_5 rfl ?_
    refine zz_callV1 (ci := 4) (x_ra_v hr) dX4_longestWalk_6 zw_m_X4_55 wYX4_relationAt wDX4_relationAt rfl (by omega) px_x rfl (Nat.le_of_ble_eq_true rfl) (by decide) rfl ?_
    refine zz_callV (ci := 3) (c_longest (w := 0) (by omega) (show r < 8 by omega) (cI_E hI hr) hn (lk_cln (cI_R hI hr))) dX4_longestWalk_9 zw_m_X4_143 wYX3_longest wDX3_longest rfl (by omega) (px_wk (by omega)) rfl (Nat.le_of_ble_eq_true rfl) (by decide) (by omega) (by omega) rfl ?_ (fun E τ hE => by cases hE.1)
    rintro v9 τ9 ⟨hv9, B, C, hB, hC, rfl⟩
    cases hv9
    generalize hz : ff (fun s => emp (lIt (Lo r) (Hi r) (alW n) (s + 1))) n 0 = z
    have hl := longest_s hn h1n (cI_R hI hr) hz
    have ez : z = n := by rcases hl with ⟨e1, e2⟩ | ⟨e1, e2, e3⟩; exact e1; exact absurd hg2 e2
    rw [if_pos ez]
    refine zz_istore_n dX4_longestWalk_12 (by decide) ?_
    refine zz_iload_n dX4_longestWalk_13 rfl ?_
    refine zz_iconst (v := (-1)) dX4_longestWalk_14 (by decide) ?_
    refine zz_icmp_ne (tgt := 28) dX4_longestWalk_15 (by decide) (fun h => absurd rfl h) (fun _ => ?_)
    refine zz_throw (cls := "java/lang/IllegalStateException") (text := "the relation has a ring") (by decide +kernel) rfl rfl (by decide +kernel) zw_l_X4_147 zw_n_java_lang_IllegalStateException zz_at_ise zz_bd_ise (by decide +kernel) dX4_longestWalk_18 dX4_longestWalk_21 dX4_longestWalk_22 dX4_longestWalk_24 dX4_longestWalk_27 (by omega) (by omega) (by omega) (Nat.le_of_ble_eq_true rfl) ?_
    exact xQ_i rfl (cI_s hI (hB 32 (by omega)) (hC 32 (by omega)))
set_option maxHeartbeats 1000000 in
set_option maxRecDepth 20000 in
theorem x_longestWalk_1 {v : Int32} (h : isR v = false) : zz_C mX4_longestWalk 7 1 6 [.ref 52, .int v] (px El Lo Hi BL BH Od Ls (nI n) T) (fun o τ => o = .inr "java/lang/IndexOutOfBoundsException" ∧ τ = px El Lo Hi BL BH Od Ls (nI n) T) := by
  · refine zz_start wPX4_longestWalk rfl rfl (Nat.le_of_ble_eq_true rfl) ?_
    refine zz_aload_n dX4_longestWalk_0 rfl ?_
    refine zz_get (ci := 4) (j := 5) zz_inX4 rfl zw_f_X4_37 rfl (by decide) dX4_longestWalk_1 (by omega) px_x rfl ?_
    refine zz_aload_n dX4_longestWalk_4 rfl ?_
    refine zz_iload_n dX4_longestWalk_5 rfl ?_
    refine zz_callV (ci := 4) (x_ra_x h) dX4_longestWalk_6 zw_m_X4_55 wYX4_relationAt wDX4_relationAt rfl (by omega) px_x rfl (Nat.le_of_ble_eq_true rfl) (by decide) (by omega) (by omega) rfl (fun v9 τ9 h9 => by cases h9.1) (fun E9 τ9 h9 => ?_)
    obtain ⟨h91, rfl⟩ := h9
    cases h91
    exact ⟨rfl, rfl⟩
set_option maxHeartbeats 1000000 in
set_option maxRecDepth 20000 in
theorem x_orderAt_v {r i : Nat} (hr : r < 4) (hi : i < n) (ho : orN (R r) n = n) (hI : cI n El Lo Hi BL BH R mk) : zz_C mX4_orderAt 7 1 6 [.ref 52, .int (nI r), .int (nI i)] (px El Lo Hi BL BH Od Ls (nI n) T) (xQ n R mk T (.inl (some (.int (nI (orX (R r) n i)))))) := by
  have hn := cI_n hI
  have h1n := cI_1 hI
  · refine zz_start wPX4_orderAt rfl rfl (Nat.le_of_ble_eq_true rfl) ?_
    refine zz_aload_n dX4_orderAt_0 rfl ?_
    refine zz_iload_n dX4_orderAt_1 rfl ?_
    refine zz_callV1 (ci := 4) (x_ra_v hr) dX4_orderAt_2 zw_m_X4_55 wYX4_relationAt wDX4_relationAt rfl (by omega) px_x rfl (Nat.le_of_ble_eq_true rfl) (by decide) rfl ?_
    refine zz_astore_n dX4_orderAt_5 (by decide) ?_
    refine zz_aload_n dX4_orderAt_6 rfl ?_
    refine zz_iload_n dX4_orderAt_7 rfl ?_
    refine zz_callV0 (ci := 4) (x_ce_v hi hn) dX4_orderAt_8 zw_m_X4_66 wYX4_checkElement wDX4_checkElement rfl (by omega) px_x rfl (Nat.le_of_ble_eq_true rfl) (by decide) rfl ?_
    refine zz_aload_n dX4_orderAt_11 rfl ?_
    refine zz_get (ci := 4) (j := 5) zz_inX4 rfl zw_f_X4_37 rfl (by decide) dX4_orderAt_12 (by omega) px_x rfl ?_
    refine zz_aload_n dX4_orderAt_15 rfl ?_
    refine zz_callV (ci := 3) (c_findOrder (w := 0) (by omega) (show r < 8 by omega) (cI_E hI hr) hn (lk_cln (cI_R hI hr))) dX4_orderAt_16 zw_m_X4_203 wYX3_findOrder wDX3_findOrder rfl (by omega) (px_wk (by omega)) rfl (Nat.le_of_ble_eq_true rfl) (by decide) (by omega) (by omega) rfl ?_ (fun E τ hE => by cases hE.1)
    rintro v9 τ9 ⟨hv9, B, C, O, hB, hC, hO, hOj, rfl⟩
    cases hv9
    rw [foB_s hn (cI_R hI hr)] at hOj ⊢
    refine zz_if_ne (tgt := 32) dX4_orderAt_19 (by decide) (fun _ => ?_) (fun h => absurd (zB_0.mp h) (by rw [decide_eq_true ho]; decide))
    refine zz_aload_n dX4_orderAt_32 rfl ?_
    refine zz_get (ci := 4) (j := 5) zz_inX4 rfl zw_f_X4_37 rfl (by decide) dX4_orderAt_33 (by omega) px_x rfl ?_
    refine zz_iload_n dX4_orderAt_36 rfl ?_
    refine zz_callV1 (ci := 3) (c_orderedAt (w := 0) (by omega) (show i < 80 by omega)) dX4_orderAt_37 zw_m_X4_208 wYX3_orderedAt wDX3_orderedAt rfl (by omega) (px_wk (by omega)) rfl (Nat.le_of_ble_eq_true rfl) (by decide) rfl ?_
    refine zz_iret dX4_orderAt_40 rfl ?_
    have hx := orN_n ho
    have e9 := hOj (decide_eq_true ho) i hi
    rw [nxO_r hn (cI_R hI hr) (fun j hj => hx j (by omega)), if_neg (by have := hx i hi; omega)] at e9
    exact xQ_i (by rw [e9]) (cI_s hI (hB 32 (by omega)) (hC 32 (by omega)))
set_option maxHeartbeats 1000000 in
set_option maxRecDepth 20000 in
theorem x_orderAt_3 {r i : Nat} (hr : r < 4) (hi : i < n) (ho : ¬ orN (R r) n = n) (hI : cI n El Lo Hi BL BH R mk) : zz_C mX4_orderAt 7 1 6 [.ref 52, .int (nI r), .int (nI i)] (px El Lo Hi BL BH Od Ls (nI n) T) (xQ n R mk T (.inr "java/lang/IllegalStateException")) := by
  have hn := cI_n hI
  have h1n := cI_1 hI
  · refine zz_start wPX4_orderAt rfl rfl (Nat.le_of_ble_eq_true rfl) ?_
    refine zz_aload_n dX4_orderAt_0 rfl ?_
    refine zz_iload_n dX4_orderAt_1 rfl ?_
    refine zz_callV1 (ci := 4) (x_ra_v hr) dX4_orderAt_2 zw_m_X4_55 wYX4_relationAt wDX4_relationAt rfl (by omega) px_x rfl (Nat.le_of_ble_eq_true rfl) (by decide) rfl ?_
    refine zz_astore_n dX4_orderAt_5 (by decide) ?_
    refine zz_aload_n dX4_orderAt_6 rfl ?_
    refine zz_iload_n dX4_orderAt_7 rfl ?_
    refine zz_callV0 (ci := 4) (x_ce_v hi hn) dX4_orderAt_8 zw_m_X4_66 wYX4_checkElement wDX4_checkElement rfl (by omega) px_x rfl (Nat.le_of_ble_eq_true rfl) (by decide) rfl ?_
    refine zz_aload_n dX4_orderAt_11 rfl ?_
    refine zz_get (ci := 4) (j := 5) zz_inX4 rfl zw_f_X4_37 rfl (by decide) dX4_orderAt_12 (by omega) px_x rfl ?_
    refine zz_aload_n dX4_orderAt_15 rfl ?_
    refine zz_callV (ci := 3) (c_findOrder (w := 0) (by omega) (show r < 8 by omega) (cI_E hI hr) hn (lk_cln (cI_R hI hr))) dX4_orderAt_16 zw_m_X4_203 wYX3_findOrder wDX3_findOrder rfl (by omega) (px_wk (by omega)) rfl (Nat.le_of_ble_eq_true rfl) (by decide) (by omega) (by omega) rfl ?_ (fun E τ hE => by cases hE.1)
    rintro v9 τ9 ⟨hv9, B, C, O, hB, hC, hO, hOj, rfl⟩
    cases hv9
    rw [foB_s hn (cI_R hI hr)] at hOj ⊢
    refine zz_if_ne (tgt := 32) dX4_orderAt_19 (by decide) (fun h => absurd (zB_n.mp h) (by rw [decide_eq_false ho]; decide)) (fun _ => ?_)
    refine zz_throw (cls := "java/lang/IllegalStateException") (text := "there is no order") (by decide +kernel) rfl rfl (by decide +kernel) zw_l_X4_147 zw_n_java_lang_IllegalStateException zz_at_ise zz_bd_ise (by decide +kernel) dX4_orderAt_22 dX4_orderAt_25 dX4_orderAt_26 dX4_orderAt_28 dX4_orderAt_31 (by omega) (by omega) (by omega) (Nat.le_of_ble_eq_true rfl) ?_
    exact xQ_i rfl (cI_s hI (hB 32 (by omega)) (hC 32 (by omega)))
set_option maxHeartbeats 1000000 in
set_option maxRecDepth 20000 in
theorem x_orderAt_1 {v : Int32} (h : isR v = false) (w : Int32) : zz_C mX4_orderAt 7 1 6 [.ref 52, .int v, .int w] (px El Lo Hi BL BH Od Ls (nI n) T) (fun o τ => o = .inr "java/lang/IndexOutOfBoundsException" ∧ τ = px El Lo Hi BL BH Od Ls (nI n) T) := by
  · refine zz_start wPX4_orderAt rfl rfl (Nat.le_of_ble_eq_true rfl) ?_
    refine zz_aload_n dX4_orderAt_0 rfl ?_
    refine zz_iload_n dX4_orderAt_1 rfl ?_
    refine zz_callV (ci := 4) (x_ra_x h) dX4_orderAt_2 zw_m_X4_55 wYX4_relationAt wDX4_relationAt rfl (by omega) px_x rfl (Nat.le_of_ble_eq_true rfl) (by decide) (by omega) (by omega) rfl (fun v9 τ9 h9 => by cases h9.1) (fun E9 τ9 h9 => ?_)
    obtain ⟨h91, rfl⟩ := h9
    cases h91
    exact ⟨rfl, rfl⟩
set_option maxHeartbeats 1000000 in
set_option maxRecDepth 20000 in
theorem x_orderAt_2 {r : Nat} (hr : r < 4) (hn : n ≤ 80) {w : Int32} (h : isE n w = false) : zz_C mX4_orderAt 7 1 6 [.ref 52, .int (nI r), .int w] (px El Lo Hi BL BH Od Ls (nI n) T) (fun o τ => o = .inr "java/lang/IndexOutOfBoundsException" ∧ τ = px El Lo Hi BL BH Od Ls (nI n) T) := by
  · refine zz_start wPX4_orderAt rfl rfl (Nat.le_of_ble_eq_true rfl) ?_
    refine zz_aload_n dX4_orderAt_0 rfl ?_
    refine zz_iload_n dX4_orderAt_1 rfl ?_
    refine zz_callV1 (ci := 4) (x_ra_v hr) dX4_orderAt_2 zw_m_X4_55 wYX4_relationAt wDX4_relationAt rfl (by omega) px_x rfl (Nat.le_of_ble_eq_true rfl) (by decide) rfl ?_
    refine zz_astore_n dX4_orderAt_5 (by decide) ?_
    refine zz_aload_n dX4_orderAt_6 rfl ?_
    refine zz_iload_n dX4_orderAt_7 rfl ?_
    refine zz_callV (ci := 4) (x_ce_x hn h) dX4_orderAt_8 zw_m_X4_66 wYX4_checkElement wDX4_checkElement rfl (by omega) px_x rfl (Nat.le_of_ble_eq_true rfl) (by decide) (by omega) (by omega) rfl (fun v9 τ9 h9 => by cases h9.1) (fun E9 τ9 h9 => ?_)
    obtain ⟨h91, rfl⟩ := h9
    cases h91
    exact ⟨rfl, rfl⟩
set_option maxHeartbeats 1000000 in
set_option maxRecDepth 20000 in
theorem x_mark_v {a e : Nat} (hae : a ≤ e) (hen : e ≤ n) (b : Bool) (hI : cI n El Lo Hi BL BH R mk) : zz_C mX4_mark 7 1 6 [.ref 52, .int (nI a), .int (nI e), .int (zB b)] (px El Lo Hi BL BH Od Ls (nI n) T) (xQ n R (ptS mk a e b) T (.inl (some (.int (nI (cnt (ptS mk a e b) n)))))) := by
  have hn := cI_n hI
  have hS := ls_put (cI_m hI) (a := a) (e := e) hen hn (by omega) b
  · refine zz_start wPX4_mark rfl rfl (Nat.le_of_ble_eq_true rfl) ?_
    refine zz_aload_n dX4_mark_0 rfl ?_
    refine zz_iload_n dX4_mark_1 rfl ?_
    refine zz_iload_n dX4_mark_2 rfl ?_
    refine zz_callV0 (ci := 4) (x_cr_v hae hen hn) dX4_mark_3 zw_m_X4_84 wYX4_checkRange wDX4_checkRange rfl (by omega) px_x rfl (Nat.le_of_ble_eq_true rfl) (by decide) rfl ?_
    refine zz_aload_n dX4_mark_6 rfl ?_
    refine zz_get (ci := 4) (j := 2) zz_inX4 rfl zw_f_X4_23 rfl (by decide) dX4_mark_7 (by omega) px_x rfl ?_
    refine zz_iload_n dX4_mark_10 rfl ?_
    refine zz_iload_n dX4_mark_11 rfl ?_
    refine zz_iload_n dX4_mark_12 rfl ?_
    refine zz_callV0 (ci := 0) (c_putRange (by omega) _ _ b) dX4_mark_13 zw_m_X4_77 wYX0_putRange wDX0_putRange rfl (by omega) (px_bit (by omega)) rfl (Nat.le_of_ble_eq_true rfl) (by decide) rfl ?_
    refine zz_aload_n dX4_mark_16 rfl ?_
    refine zz_get (ci := 4) (j := 2) zz_inX4 rfl zw_f_X4_23 rfl (by decide) dX4_mark_17 (by omega) px_x rfl ?_
    refine zz_callV1 (ci := 0) (c_size (by omega)) dX4_mark_20 zw_m_X4_211 wYX0_size wDX0_size rfl (by omega) (px_bit (by omega)) rfl (Nat.le_of_ble_eq_true rfl) (by decide) rfl ?_
    refine zz_iret dX4_mark_23 rfl ?_
    simp only [up_at]
    exact xQ_i (by rw [show ∀ x y : Int64, bcn x + bcn y = szr x y from fun _ _ => rfl, ls_szr hn hS]) (cI_mk hI (by rw [up_at, up_at]; exact hS))
set_option maxHeartbeats 1000000 in
set_option maxRecDepth 20000 in
theorem x_mark_1 {v w : Int32} (h : isG n v w = false) (z : Int32) : zz_C mX4_mark 7 1 6 [.ref 52, .int v, .int w, .int z] (px El Lo Hi BL BH Od Ls (nI n) T) (fun o τ => o = .inr "java/lang/IndexOutOfBoundsException" ∧ τ = px El Lo Hi BL BH Od Ls (nI n) T) := by
  · refine zz_start wPX4_mark rfl rfl (Nat.le_of_ble_eq_true rfl) ?_
    refine zz_aload_n dX4_mark_0 rfl ?_
    refine zz_iload_n dX4_mark_1 rfl ?_
    refine zz_iload_n dX4_mark_2 rfl ?_
    refine zz_callV (ci := 4) (x_cr_x h) dX4_mark_3 zw_m_X4_84 wYX4_checkRange wDX4_checkRange rfl (by omega) px_x rfl (Nat.le_of_ble_eq_true rfl) (by decide) (by omega) (by omega) rfl (fun v9 τ9 h9 => by cases h9.1) (fun E9 τ9 h9 => ?_)
    obtain ⟨h91, rfl⟩ := h9
    cases h91
    exact ⟨rfl, rfl⟩
set_option maxHeartbeats 1000000 in
set_option maxRecDepth 20000 in
theorem x_spread_v {r : Nat} (hr : r < 4) (b : Bool) (hI : cI n El Lo Hi BL BH R mk) : zz_C mX4_spread 7 1 6 [.ref 52, .int (nI r), .int (zB b)] (px El Lo Hi BL BH Od Ls (nI n) T) (xQ n R (fun k => (b && mk k) || anb (fun i => mk i && R r i k) n) T (.inl (some (.int (nI (cnt (fun k => (b && mk k) || anb (fun i => mk i && R r i k) n) n)))))) := by
  have hn := cI_n hI
  have hG := ls_ig hn (cI_R hI hr) (cI_m hI)
  cases b
  · have hS := ls_c hG (S' := fun k => (false && mk k) || anb (fun i => mk i && R r i k) n) (fun k _ => by simp)
    refine zz_start wPX4_spread rfl rfl (Nat.le_of_ble_eq_true rfl) ?_
    refine zz_aload_n dX4_spread_0 rfl ?_
    refine zz_iload_n dX4_spread_1 rfl ?_
    refine zz_callV1 (ci := 4) (x_ra_v hr) dX4_spread_2 zw_m_X4_55 wYX4_relationAt wDX4_relationAt rfl (by omega) px_x rfl (Nat.le_of_ble_eq_true rfl) (by decide) rfl ?_
    refine zz_astore_n dX4_spread_5 (by decide) ?_
    refine zz_aload_n dX4_spread_6 rfl ?_
    refine zz_get (ci := 4) (j := 3) zz_inX4 rfl zw_f_X4_27 rfl (by decide) dX4_spread_7 (by omega) px_x rfl ?_
    refine zz_aload_n dX4_spread_10 rfl ?_
    refine zz_get (ci := 4) (j := 2) zz_inX4 rfl zw_f_X4_23 rfl (by decide) dX4_spread_11 (by omega) px_x rfl ?_
    refine zz_callV0 (ci := 0) (c_become (by omega) (by omega)) dX4_spread_14 zw_m_X4_214 wYX0_become wDX0_become rfl (by omega) (px_bit (by omega)) rfl (Nat.le_of_ble_eq_true rfl) (by decide) rfl ?_
    refine zz_aload_n dX4_spread_17 rfl ?_
    refine zz_aload_n dX4_spread_18 rfl ?_
    refine zz_get (ci := 4) (j := 3) zz_inX4 rfl zw_f_X4_27 rfl (by decide) dX4_spread_19 (by omega) px_x rfl ?_
    refine zz_aload_n dX4_spread_22 rfl ?_
    refine zz_get (ci := 4) (j := 2) zz_inX4 rfl zw_f_X4_23 rfl (by decide) dX4_spread_23 (by omega) px_x rfl ?_
    refine zz_callV0 (ci := 1) (c_imageOf (show r < 8 by omega) (cI_E hI hr) hn (p := 33) (by omega) (q := 32) (by omega) (fun k hk => by rw [up_at, up_at]; exact ls_no (cI_m hI) hk)) dX4_spread_26 zw_m_X4_218 wYX1_imageOf wDX1_imageOf rfl (by omega) (px_rel (by omega)) rfl (Nat.le_of_ble_eq_true rfl) (by decide) rfl ?_
    refine zz_iload_n dX4_spread_29 rfl ?_
    refine zz_if_eq (tgt := 44) dX4_spread_30 (by decide) (fun _ => ?_) (fun h => absurd rfl h)
    refine zz_aload_n dX4_spread_44 rfl ?_
    refine zz_get (ci := 4) (j := 2) zz_inX4 rfl zw_f_X4_23 rfl (by decide) dX4_spread_45 (by omega) px_x rfl ?_
    refine zz_callV1 (ci := 0) (c_size (by omega)) dX4_spread_48 zw_m_X4_211 wYX0_size wDX0_size rfl (by omega) (px_bit (by omega)) rfl (Nat.le_of_ble_eq_true rfl) (by decide) rfl ?_
    refine zz_iret dX4_spread_51 rfl ?_
    simp only [up_at, up_ne _ _ (show (33 : Nat) ≠ 32 by decide), up_ne _ _ (show (32 : Nat) ≠ 33 by decide)]
    exact xQ_i (by rw [show ∀ x y : Int64, bcn x + bcn y = szr x y from fun _ _ => rfl, ls_szr hn hS]) (cI_mk hI (by simp only [up_at, up_ne _ _ (show (33 : Nat) ≠ 32 by decide)]; exact hS))
  · have hS := ls_c (ls_or hG (cI_m hI)) (S' := fun k => (true && mk k) || anb (fun i => mk i && R r i k) n) (fun k _ => by rw [Bool.true_and, Bool.or_comm])
    refine zz_start wPX4_spread rfl rfl (Nat.le_of_ble_eq_true rfl) ?_
    refine zz_aload_n dX4_spread_0 rfl ?_
    refine zz_iload_n dX4_spread_1 rfl ?_
    refine zz_callV1 (ci := 4) (x_ra_v hr) dX4_spread_2 zw_m_X4_55 wYX4_relationAt wDX4_relationAt rfl (by omega) px_x rfl (Nat.le_of_ble_eq_true rfl) (by decide) rfl ?_
    refine zz_astore_n dX4_spread_5 (by decide) ?_
    refine zz_aload_n dX4_spread_6 rfl ?_
    refine zz_get (ci := 4) (j := 3) zz_inX4 rfl zw_f_X4_27 rfl (by decide) dX4_spread_7 (by omega) px_x rfl ?_
    refine zz_aload_n dX4_spread_10 rfl ?_
    refine zz_get (ci := 4) (j := 2) zz_inX4 rfl zw_f_X4_23 rfl (by decide) dX4_spread_11 (by omega) px_x rfl ?_
    refine zz_callV0 (ci := 0) (c_become (by omega) (by omega)) dX4_spread_14 zw_m_X4_214 wYX0_become wDX0_become rfl (by omega) (px_bit (by omega)) rfl (Nat.le_of_ble_eq_true rfl) (by decide) rfl ?_
    refine zz_aload_n dX4_spread_17 rfl ?_
    refine zz_aload_n dX4_spread_18 rfl ?_
    refine zz_get (ci := 4) (j := 3) zz_inX4 rfl zw_f_X4_27 rfl (by decide) dX4_spread_19 (by omega) px_x rfl ?_
    refine zz_aload_n dX4_spread_22 rfl ?_
    refine zz_get (ci := 4) (j := 2) zz_inX4 rfl zw_f_X4_23 rfl (by decide) dX4_spread_23 (by omega) px_x rfl ?_
    refine zz_callV0 (ci := 1) (c_imageOf (show r < 8 by omega) (cI_E hI hr) hn (p := 33) (by omega) (q := 32) (by omega) (fun k hk => by rw [up_at, up_at]; exact ls_no (cI_m hI) hk)) dX4_spread_26 zw_m_X4_218 wYX1_imageOf wDX1_imageOf rfl (by omega) (px_rel (by omega)) rfl (Nat.le_of_ble_eq_true rfl) (by decide) rfl ?_
    refine zz_iload_n dX4_spread_29 rfl ?_
    refine zz_if_eq (tgt := 44) dX4_spread_30 (by decide) (fun h => absurd h (by decide)) (fun _ => ?_)
    refine zz_aload_n dX4_spread_33 rfl ?_
    refine zz_get (ci := 4) (j := 2) zz_inX4 rfl zw_f_X4_23 rfl (by decide) dX4_spread_34 (by omega) px_x rfl ?_
    refine zz_aload_n dX4_spread_37 rfl ?_
    refine zz_get (ci := 4) (j := 3) zz_inX4 rfl zw_f_X4_27 rfl (by decide) dX4_spread_38 (by omega) px_x rfl ?_
    refine zz_callV0 (ci := 0) (c_unite (by omega) (by omega)) dX4_spread_41 zw_m_X4_222 wYX0_unite wDX0_unite rfl (by omega) (px_bit (by omega)) rfl (Nat.le_of_ble_eq_true rfl) (by decide) rfl ?_
    refine zz_aload_n dX4_spread_44 rfl ?_
    refine zz_get (ci := 4) (j := 2) zz_inX4 rfl zw_f_X4_23 rfl (by decide) dX4_spread_45 (by omega) px_x rfl ?_
    refine zz_callV1 (ci := 0) (c_size (by omega)) dX4_spread_48 zw_m_X4_211 wYX0_size wDX0_size rfl (by omega) (px_bit (by omega)) rfl (Nat.le_of_ble_eq_true rfl) (by decide) rfl ?_
    refine zz_iret dX4_spread_51 rfl ?_
    simp only [up_at, up_ne _ _ (show (33 : Nat) ≠ 32 by decide), up_ne _ _ (show (32 : Nat) ≠ 33 by decide)]
    exact xQ_i (by rw [show ∀ x y : Int64, bcn x + bcn y = szr x y from fun _ _ => rfl, ls_szr hn hS]) (cI_mk hI (by simp only [up_at, up_ne _ _ (show (33 : Nat) ≠ 32 by decide)]; exact hS))
set_option maxHeartbeats 1000000 in
set_option maxRecDepth 20000 in
theorem x_spread_1 {v : Int32} (h : isR v = false) (z : Int32) : zz_C mX4_spread 7 1 6 [.ref 52, .int v, .int z] (px El Lo Hi BL BH Od Ls (nI n) T) (fun o τ => o = .inr "java/lang/IndexOutOfBoundsException" ∧ τ = px El Lo Hi BL BH Od Ls (nI n) T) := by
  · refine zz_start wPX4_spread rfl rfl (Nat.le_of_ble_eq_true rfl) ?_
    refine zz_aload_n dX4_spread_0 rfl ?_
    refine zz_iload_n dX4_spread_1 rfl ?_
    refine zz_callV (ci := 4) (x_ra_x h) dX4_spread_2 zw_m_X4_55 wYX4_relationAt wDX4_relationAt rfl (by omega) px_x rfl (Nat.le_of_ble_eq_true rfl) (by decide) (by omega) (by omega) rfl (fun v9 τ9 h9 => by cases h9.1) (fun E9 τ9 h9 => ?_)
    obtain ⟨h91, rfl⟩ := h9
    cases h91
    exact ⟨rfl, rfl⟩
theorem cnt_st {mk : Nat → Bool} {i : Nat} (h : mk i = true) : cnt mk (i + 1) = cnt mk i + 1 := by rw [cnt_0, if_pos h]
theorem cnt_sf {mk : Nat → Bool} {i : Nat} (h : mk i = false) : cnt mk (i + 1) = cnt mk i := by rw [cnt_0, if_neg (by rw [h]; decide)]
set_option maxHeartbeats 1000000 in
set_option maxRecDepth 20000 in
theorem xl_mka (hI : cI n El Lo Hi BL BH R mk) (v : Int32) {z : Nat} : ∀ (m i : Nat), i + m = n → ff (fun k => mk k && decide (nI (cnt mk k) = v)) m i = z → zz_E mX4_markedAt none 7 1 6 (fun o τ => τ = px El Lo Hi BL BH Od Ls (nI n) T ∧ (if z = n then o = .inr "java/util/NoSuchElementException" else o = .inl (some (.int (nI z))))) 4 [(3, .int (nI i)), (2, .int (nI (cnt mk i))), (0, .ref 52), (1, .int v)] [] (px El Lo Hi BL BH Od Ls (nI n) T) := by
  intro m
  induction m with
  | zero =>
    intro i hi hf
    have hi2 : i = n := by omega
    subst hi2
    have hn := cI_n hI
    have hz : z = i := hf.symm
    refine zz_iload_n dX4_markedAt_4 rfl ?_
    refine zz_aload_n dX4_markedAt_5 rfl ?_
    refine zz_get (ci := 4) (j := 0) zz_inX4 rfl zw_f_X4_9 rfl (by decide) dX4_markedAt_6 (by omega) px_x rfl ?_
    refine zz_icmp_ge (tgt := 39) dX4_markedAt_9 (by decide) (fun _ => ?_) (fun h => absurd (nI_le (by omega) (by omega)) h)
    refine zz_throwN (text := "no marked element has this index") rfl rfl (by decide +kernel) dX4_markedAt_39 dX4_markedAt_42 dX4_markedAt_43 dX4_markedAt_45 dX4_markedAt_48 (by omega) (by omega) (by omega) (Nat.le_of_ble_eq_true rfl) ?_
    exact ⟨rfl, by rw [if_pos hz]⟩
  | succ m ih =>
    intro i hi hf
    have hn := cI_n hI
    have hm := cI_m hI
    have hin : i < n := by omega
    refine zz_iload_n dX4_markedAt_4 rfl ?_
    refine zz_aload_n dX4_markedAt_5 rfl ?_
    refine zz_get (ci := 4) (j := 0) zz_inX4 rfl zw_f_X4_9 rfl (by decide) dX4_markedAt_6 (by omega) px_x rfl ?_
    refine zz_icmp_ge (tgt := 39) dX4_markedAt_9 (by decide) (fun h => absurd h (nI_ge (by omega) (by omega))) (fun _ => ?_)
    refine zz_aload_n dX4_markedAt_12 rfl ?_
    refine zz_get (ci := 4) (j := 2) zz_inX4 rfl zw_f_X4_23 rfl (by decide) dX4_markedAt_13 (by omega) px_x rfl ?_
    refine zz_iload_n dX4_markedAt_16 rfl ?_
    refine zz_callV1 (ci := 0) (c_holds (by omega) _) dX4_markedAt_17 zw_m_X4_225 wYX0_holds wDX0_holds rfl (by omega) (px_bit (by omega)) rfl (Nat.le_of_ble_eq_true rfl) (by decide) rfl ?_
    rw [ls_hld hm hn hin]
    refine zz_if_eq (tgt := 33) dX4_markedAt_20 (by decide) (fun h20 => ?_) (fun h20 => ?_)
    · refine zz_iinc (v := nI (i + 1)) dX4_markedAt_33 rfl (nI_1 i) (by decide) ?_
      refine zz_goto (tgt := 4) dX4_markedAt_36 (by decide) ?_
      first
        | have e7 := zB_0.mp h20
          have h9 := ih (i + 1) (by omega) (by rw [← hf]; exact (ff_f (by show (mk i && _) = false; rw [e7]; rfl)).symm)
          rw [cnt_sf e7] at h9
          exact h9
        | have e7 := zB_n.mp h20
          have h9 := ih (i + 1) (by omega) (by rw [← hf]; exact (ff_f (by show (mk i && decide (nI (cnt mk i) = v)) = false; rw [decide_eq_false h25, Bool.and_false])).symm)
          rw [cnt_st e7] at h9
          exact h9
    · refine zz_iload_n dX4_markedAt_23 rfl ?_
      refine zz_iload_n dX4_markedAt_24 rfl ?_
      refine zz_icmp_ne (tgt := 30) dX4_markedAt_25 (by decide) (fun h25 => ?_) (fun h25 => ?_)
      · refine zz_iinc (v := nI (cnt mk i + 1)) dX4_markedAt_30 rfl (nI_1 _) (by decide) ?_
        refine zz_iinc (v := nI (i + 1)) dX4_markedAt_33 rfl (nI_1 i) (by decide) ?_
        refine zz_goto (tgt := 4) dX4_markedAt_36 (by decide) ?_
        first
          | have e7 := zB_0.mp h20
            have h9 := ih (i + 1) (by omega) (by rw [← hf]; exact (ff_f (by show (mk i && _) = false; rw [e7]; rfl)).symm)
            rw [cnt_sf e7] at h9
            exact h9
          | have e7 := zB_n.mp h20
            have h9 := ih (i + 1) (by omega) (by rw [← hf]; exact (ff_f (by show (mk i && decide (nI (cnt mk i) = v)) = false; rw [decide_eq_false h25, Bool.and_false])).symm)
            rw [cnt_st e7] at h9
            exact h9
      · refine zz_iload_n dX4_markedAt_28 rfl ?_
        refine zz_iret dX4_markedAt_29 rfl ?_
        have e8 : (fun k => mk k && decide (nI (cnt mk k) = v)) i = true := by
          show (mk i && decide (nI (cnt mk i) = v)) = true
          rw [zB_n.mp h20, decide_eq_true (show nI (cnt mk i) = v from h25)]; rfl
        have hz : z = i := by rw [← hf]; exact ff_t e8
        exact ⟨rfl, by rw [if_neg (by omega), hz]⟩
set_option maxHeartbeats 1000000 in
set_option maxRecDepth 20000 in
theorem x_markedAt (v : Int32) (hI : cI n El Lo Hi BL BH R mk) : zz_C mX4_markedAt 7 1 6 [.ref 52, .int v] (px El Lo Hi BL BH Od Ls (nI n) T) (fun o τ => τ = px El Lo Hi BL BH Od Ls (nI n) T ∧ (if ff (fun k => mk k && decide (nI (cnt mk k) = v)) n 0 = n then o = .inr "java/util/NoSuchElementException" else o = .inl (some (.int (nI (ff (fun k => mk k && decide (nI (cnt mk k) = v)) n 0)))))) := by
  · refine zz_start wPX4_markedAt rfl rfl (Nat.le_of_ble_eq_true rfl) ?_
    refine zz_iconst (v := 0) dX4_markedAt_0 (by decide) ?_
    refine zz_istore_n dX4_markedAt_1 (by decide) ?_
    refine zz_iconst (v := 0) dX4_markedAt_2 (by decide) ?_
    refine zz_istore_n dX4_markedAt_3 (by decide) ?_
    exact xl_mka hI v n 0 (by omega) rfl
set_option maxHeartbeats 1000000 in
set_option maxRecDepth 20000 in
theorem x_eom (hI : cI n El Lo Hi BL BH R mk) : zz_C mX4_endOfMarks 7 0 0 [.ref 52] (px El Lo Hi BL BH Od Ls (nI n) T) (xQ n R mk T (.inl (some (.int (nI (eom mk n)))))) := by
  have hn := cI_n hI
  · refine zz_start wPX4_endOfMarks rfl rfl (Nat.le_of_ble_eq_true rfl) ?_
    refine zz_aload_n dX4_endOfMarks_0 rfl ?_
    refine zz_get (ci := 4) (j := 2) zz_inX4 rfl zw_f_X4_23 rfl (by decide) dX4_endOfMarks_1 (by omega) px_x rfl ?_
    refine zz_bipush (v := 79) dX4_endOfMarks_4 (by decide) ?_
    refine zz_callV1 (ci := 0) (c_greatestTo (by omega) 79 (by omega)) dX4_endOfMarks_6 zw_m_X4_161 wYX0_greatestTo wDX0_greatestTo rfl (by omega) (px_bit (by omega)) rfl (Nat.le_of_ble_eq_true rfl) (by decide) rfl ?_
    refine zz_iconst (v := 1) dX4_endOfMarks_9 (by decide) ?_
    refine zz_iadd dX4_endOfMarks_10 ?_
    refine zz_iret dX4_endOfMarks_11 rfl ?_
    exact xQ_i (by rw [← ls_eom hn (cI_m hI)]) hI
theorem prs_lt {n : Nat} (hn : n ≤ 80) (X : Nat → Nat → Bool) : sm (fun j => cnt (X j) n) n < 6401 := by
  have h := sm_le (g := fun j => cnt (X j) n) (b := n) (fun j => cnt_le _ n) n
  have h2 : n * n ≤ 80 * 80 := Nat.mul_le_mul hn hn
  omega
set_option maxHeartbeats 1000000 in
set_option maxRecDepth 20000 in
theorem x_meanRow_v {r : Nat} (hr : r < 4) (hI : cI n El Lo Hi BL BH R mk) : zz_C mX4_meanRow 7 1 6 [.ref 52, .int (nI r)] (px El Lo Hi BL BH Od Ls (nI n) T) (xQ n R mk T (.inl (some (.double (FP.ddiv (FP.i2d (nI (sm (fun j => cnt (R r j) n) n))) (FP.i2d (nI n))))))) := by
  have hn := cI_n hI
  have h1n := cI_1 hI
  · refine zz_start wPX4_meanRow rfl rfl (Nat.le_of_ble_eq_true rfl) ?_
    refine zz_aload_n dX4_meanRow_0 rfl ?_
    refine zz_iload_n dX4_meanRow_1 rfl ?_
    refine zz_callV1 (ci := 4) (x_ra_v hr) dX4_meanRow_2 zw_m_X4_55 wYX4_relationAt wDX4_relationAt rfl (by omega) px_x rfl (Nat.le_of_ble_eq_true rfl) (by decide) rfl ?_
    refine zz_callV1 (ci := 1) (c_pairs (show r < 8 by omega) (cI_E hI hr) hn) dX4_meanRow_5 zw_m_X4_106 wYX1_pairs wDX1_pairs rfl (by omega) (px_rel (by omega)) rfl (Nat.le_of_ble_eq_true rfl) (by decide) rfl ?_
    rw [lk_prs hn (cI_R hI hr) n (Nat.le_refl n)]
    refine zz_i2d dX4_meanRow_8 ?_
    refine zz_dstore_n dX4_meanRow_9 (by decide) ?_
    refine zz_aload_n dX4_meanRow_10 rfl ?_
    refine zz_get (ci := 4) (j := 0) zz_inX4 rfl zw_f_X4_9 rfl (by decide) dX4_meanRow_11 (by omega) px_x rfl ?_
    refine zz_iconst (v := 1) dX4_meanRow_14 (by decide) ?_
    refine zz_icmp_ge (tgt := 22) dX4_meanRow_15 (by decide) (fun _ => ?_) (fun h => absurd (nI_le (a := 1) h1n (by omega)) h)
    refine zz_dload_n dX4_meanRow_22 rfl ?_
    refine zz_aload_n dX4_meanRow_23 rfl ?_
    refine zz_get (ci := 4) (j := 0) zz_inX4 rfl zw_f_X4_9 rfl (by decide) dX4_meanRow_24 (by omega) px_x rfl ?_
    refine zz_i2d dX4_meanRow_27 ?_
    refine zz_ddiv dX4_meanRow_28 (zf_ddiv (prs_lt hn _) (by omega) h1n) ?_
    refine zz_dret dX4_meanRow_29 rfl ?_
    exact xQ_i rfl hI
set_option maxHeartbeats 1000000 in
set_option maxRecDepth 20000 in
theorem x_meanRow_1 {v : Int32} (h : isR v = false) : zz_C mX4_meanRow 7 1 6 [.ref 52, .int v] (px El Lo Hi BL BH Od Ls (nI n) T) (fun o τ => o = .inr "java/lang/IndexOutOfBoundsException" ∧ τ = px El Lo Hi BL BH Od Ls (nI n) T) := by
  · refine zz_start wPX4_meanRow rfl rfl (Nat.le_of_ble_eq_true rfl) ?_
    refine zz_aload_n dX4_meanRow_0 rfl ?_
    refine zz_iload_n dX4_meanRow_1 rfl ?_
    refine zz_callV (ci := 4) (x_ra_x h) dX4_meanRow_2 zw_m_X4_55 wYX4_relationAt wDX4_relationAt rfl (by omega) px_x rfl (Nat.le_of_ble_eq_true rfl) (by decide) (by omega) (by omega) rfl (fun v9 τ9 h9 => by cases h9.1) (fun E9 τ9 h9 => ?_)
    obtain ⟨h91, rfl⟩ := h9
    cases h91
    exact ⟨rfl, rfl⟩
end ZZX4E
