section ZZHL
variable {σ : zz_St} {fs : List Value} {Q2 Q : zz_Q}
set_option maxHeartbeats 1000000 in
set_option maxRecDepth 20000 in
theorem g_begin (h52 : σ 52 = .inr (4, fs)) (a0 : Int32) {mc ms : Nat} (hC : zz_C mX4_begin 7 mc ms [.ref 52, .int a0] σ Q2) (hv : ∀ v τ, Q2 (.inl v) τ → ∃ (x : Int32) (oo : Nat → Int64), v = some (.int x) ∧ τ 66 = oc oo ∧ Q (.inl (some (.int 0))) (va_up τ 66 (oc (va_up oo 0 (x.toInt64))))) (hx : ∀ E τ, Q2 (.inr E) τ → (E = "java/lang/IllegalArgumentException" ∧ Q (.inl (some (.int 1))) τ)) : zz_C mL_begin 8 mc ms [.ref 52, .int a0, .ref 66] σ Q := by
  refine zz_startH wPL_begin rfl rfl (Nat.le_of_ble_eq_true rfl) ?_
  refine zz_aload_n dL_begin_0 rfl ?_
  refine zz_iconst (v := 0) dL_begin_1 (by decide) ?_
  refine zz_aload_n dL_begin_2 rfl ?_
  refine zz_iload_n dL_begin_3 rfl ?_
  refine zz_callVX (ci := 4) hC dL_begin_4 zw_m_L_7 wYX4_begin wDX4_begin rfl (by omega) h52 rfl (Nat.le_of_ble_eq_true rfl) (by decide) (Nat.le_refl _) (Nat.le_refl _) rfl (fun v9 τ9 h9 => ?_) (fun E9 τ9 h9 => ?_)
  · obtain ⟨x, oo, rfl, h66, hq⟩ := hv v9 τ9 h9
    refine zz_i2l dL_begin_7 rfl ?_
    refine zz_last dL_begin_8 (by omega) h66 (vp_in_nI (n := 0) (N := 1) (by omega) (by omega)) ?_
    refine zz_goto (tgt := 15) dL_begin_9 (by decide) ?_
    refine zz_iconst (v := 0) dL_begin_15 (by decide) ?_
    refine zz_iret dL_begin_16 rfl ?_
    exact hq
  · obtain ⟨rfl, hq⟩ := hx E9 τ9 h9
    exact ⟨1, ⟨[], [], (0, 9, 12, 13), rfl, ⟨by decide, by decide⟩, by decide, zw_l_L_13, by simp [zz_exc], (fun z hz => nomatch hz), Or.inl ⟨3, 1, by decide, dL_begin_12, dL_begin_13, by decide, dL_begin_14⟩⟩, hq⟩
set_option maxHeartbeats 1000000 in
set_option maxRecDepth 20000 in
theorem g_set (h52 : σ 52 = .inr (4, fs)) (a0 : Int32) (a1 : Int32) (a2 : Int32) (a3 : Int32) {mc ms : Nat} (hC : zz_C mX4_set 7 mc ms [.ref 52, .int a0, .int a1, .int a2, .int a3] σ Q2) (hv : ∀ v τ, Q2 (.inl v) τ → ∃ (x : Bool) (oo : Nat → Int64), v = some (.int (zB x)) ∧ τ 66 = oc oo ∧ Q (.inl (some (.int 0))) (va_up τ 66 (oc (va_up oo 0 (zL x))))) (hx : ∀ E τ, Q2 (.inr E) τ → (E = "java/lang/IndexOutOfBoundsException" ∧ Q (.inl (some (.int 1))) τ)) : zz_C mL_set 8 mc ms [.ref 52, .int a0, .int a1, .int a2, .int a3, .ref 66] σ Q := by
  refine zz_startH wPL_set rfl rfl (Nat.le_of_ble_eq_true rfl) ?_
  refine zz_aload dL_set_0 rfl ?_
  refine zz_iconst (v := 0) dL_set_2 (by decide) ?_
  refine zz_aload_n dL_set_3 rfl ?_
  refine zz_iload_n dL_set_4 rfl ?_
  refine zz_iload_n dL_set_5 rfl ?_
  refine zz_iload_n dL_set_6 rfl ?_
  refine zz_iload dL_set_7 rfl ?_
  refine zz_callVX (ci := 4) hC dL_set_9 zw_m_L_15 wYX4_set wDX4_set rfl (by omega) h52 rfl (Nat.le_of_ble_eq_true rfl) (by decide) (Nat.le_refl _) (Nat.le_refl _) rfl (fun v9 τ9 h9 => ?_) (fun E9 τ9 h9 => ?_)
  · obtain ⟨x, oo, rfl, h66, hq⟩ := hv v9 τ9 h9
    refine zz_nzL dL_set_12 dL_set_15 dL_set_16 dL_set_19 ?_
    refine zz_last dL_set_20 (by omega) h66 (vp_in_nI (n := 0) (N := 1) (by omega) (by omega)) ?_
    refine zz_goto (tgt := 28) dL_set_21 (by decide) ?_
    refine zz_iconst (v := 0) dL_set_28 (by decide) ?_
    refine zz_iret dL_set_29 rfl ?_
    exact hq
  · obtain ⟨rfl, hq⟩ := hx E9 τ9 h9
    exact ⟨1, ⟨[], [], (0, 21, 24, 19), rfl, ⟨by decide, by decide⟩, by decide, zw_l_L_19, by simp [zz_exc], (fun z hz => nomatch hz), Or.inr ⟨6, 1, by decide, dL_set_24, dL_set_26, by decide, dL_set_27⟩⟩, hq⟩
set_option maxHeartbeats 1000000 in
set_option maxRecDepth 20000 in
theorem g_setRange (h52 : σ 52 = .inr (4, fs)) (a0 : Int32) (a1 : Int32) (a2 : Int32) (a3 : Int32) (a4 : Int32) {mc ms : Nat} (hC : zz_C mX4_setRange 7 mc ms [.ref 52, .int a0, .int a1, .int a2, .int a3, .int a4] σ Q2) (hv : ∀ v τ, Q2 (.inl v) τ → ∃ (x : Int32) (oo : Nat → Int64), v = some (.int x) ∧ τ 66 = oc oo ∧ Q (.inl (some (.int 0))) (va_up τ 66 (oc (va_up oo 0 (x.toInt64))))) (hx : ∀ E τ, Q2 (.inr E) τ → (E = "java/lang/IndexOutOfBoundsException" ∧ Q (.inl (some (.int 1))) τ)) : zz_C mL_setRange 8 mc ms [.ref 52, .int a0, .int a1, .int a2, .int a3, .int a4, .ref 66] σ Q := by
  refine zz_startH wPL_setRange rfl rfl (Nat.le_of_ble_eq_true rfl) ?_
  refine zz_aload dL_setRange_0 rfl ?_
  refine zz_iconst (v := 0) dL_setRange_2 (by decide) ?_
  refine zz_aload_n dL_setRange_3 rfl ?_
  refine zz_iload_n dL_setRange_4 rfl ?_
  refine zz_iload_n dL_setRange_5 rfl ?_
  refine zz_iload_n dL_setRange_6 rfl ?_
  refine zz_iload dL_setRange_7 rfl ?_
  refine zz_iload dL_setRange_9 rfl ?_
  refine zz_callVX (ci := 4) hC dL_setRange_11 zw_m_L_21 wYX4_setRange wDX4_setRange rfl (by omega) h52 rfl (Nat.le_of_ble_eq_true rfl) (by decide) (Nat.le_refl _) (Nat.le_refl _) rfl (fun v9 τ9 h9 => ?_) (fun E9 τ9 h9 => ?_)
  · obtain ⟨x, oo, rfl, h66, hq⟩ := hv v9 τ9 h9
    refine zz_i2l dL_setRange_14 rfl ?_
    refine zz_last dL_setRange_15 (by omega) h66 (vp_in_nI (n := 0) (N := 1) (by omega) (by omega)) ?_
    refine zz_goto (tgt := 23) dL_setRange_16 (by decide) ?_
    refine zz_iconst (v := 0) dL_setRange_23 (by decide) ?_
    refine zz_iret dL_setRange_24 rfl ?_
    exact hq
  · obtain ⟨rfl, hq⟩ := hx E9 τ9 h9
    exact ⟨1, ⟨[], [], (0, 16, 19, 19), rfl, ⟨by decide, by decide⟩, by decide, zw_l_L_19, by simp [zz_exc], (fun z hz => nomatch hz), Or.inr ⟨7, 1, by decide, dL_setRange_19, dL_setRange_21, by decide, dL_setRange_22⟩⟩, hq⟩
set_option maxHeartbeats 1000000 in
set_option maxRecDepth 20000 in
theorem g_flipRange (h52 : σ 52 = .inr (4, fs)) (a0 : Int32) (a1 : Int32) (a2 : Int32) (a3 : Int32) {mc ms : Nat} (hC : zz_C mX4_flipRange 7 mc ms [.ref 52, .int a0, .int a1, .int a2, .int a3] σ Q2) (hv : ∀ v τ, Q2 (.inl v) τ → ∃ (x : Int32) (oo : Nat → Int64), v = some (.int x) ∧ τ 66 = oc oo ∧ Q (.inl (some (.int 0))) (va_up τ 66 (oc (va_up oo 0 (x.toInt64))))) (hx : ∀ E τ, Q2 (.inr E) τ → (E = "java/lang/IndexOutOfBoundsException" ∧ Q (.inl (some (.int 1))) τ)) : zz_C mL_flipRange 8 mc ms [.ref 52, .int a0, .int a1, .int a2, .int a3, .ref 66] σ Q := by
  refine zz_startH wPL_flipRange rfl rfl (Nat.le_of_ble_eq_true rfl) ?_
  refine zz_aload dL_flipRange_0 rfl ?_
  refine zz_iconst (v := 0) dL_flipRange_2 (by decide) ?_
  refine zz_aload_n dL_flipRange_3 rfl ?_
  refine zz_iload_n dL_flipRange_4 rfl ?_
  refine zz_iload_n dL_flipRange_5 rfl ?_
  refine zz_iload_n dL_flipRange_6 rfl ?_
  refine zz_iload dL_flipRange_7 rfl ?_
  refine zz_callVX (ci := 4) hC dL_flipRange_9 zw_m_L_25 wYX4_flipRange wDX4_flipRange rfl (by omega) h52 rfl (Nat.le_of_ble_eq_true rfl) (by decide) (Nat.le_refl _) (Nat.le_refl _) rfl (fun v9 τ9 h9 => ?_) (fun E9 τ9 h9 => ?_)
  · obtain ⟨x, oo, rfl, h66, hq⟩ := hv v9 τ9 h9
    refine zz_i2l dL_flipRange_12 rfl ?_
    refine zz_last dL_flipRange_13 (by omega) h66 (vp_in_nI (n := 0) (N := 1) (by omega) (by omega)) ?_
    refine zz_goto (tgt := 21) dL_flipRange_14 (by decide) ?_
    refine zz_iconst (v := 0) dL_flipRange_21 (by decide) ?_
    refine zz_iret dL_flipRange_22 rfl ?_
    exact hq
  · obtain ⟨rfl, hq⟩ := hx E9 τ9 h9
    exact ⟨1, ⟨[], [], (0, 14, 17, 19), rfl, ⟨by decide, by decide⟩, by decide, zw_l_L_19, by simp [zz_exc], (fun z hz => nomatch hz), Or.inr ⟨6, 1, by decide, dL_flipRange_17, dL_flipRange_19, by decide, dL_flipRange_20⟩⟩, hq⟩
set_option maxHeartbeats 1000000 in
set_option maxRecDepth 20000 in
theorem g_setRow (h52 : σ 52 = .inr (4, fs)) (a0 : Int32) (a1 : Int32) (a2 : Int64) {mc ms : Nat} (hC : zz_C mX4_setRow 7 mc ms [.ref 52, .int a0, .int a1, .long a2] σ Q2) (hv : ∀ v τ, Q2 (.inl v) τ → ∃ (x : Int32) (oo : Nat → Int64), v = some (.int x) ∧ τ 66 = oc oo ∧ Q (.inl (some (.int 0))) (va_up τ 66 (oc (va_up oo 0 (x.toInt64))))) (hx : ∀ E τ, Q2 (.inr E) τ → (E = "java/lang/IndexOutOfBoundsException" ∧ Q (.inl (some (.int 1))) τ)) : zz_C mL_setRow 8 mc ms [.ref 52, .int a0, .int a1, .long a2, .ref 66] σ Q := by
  refine zz_startH wPL_setRow rfl rfl (Nat.le_of_ble_eq_true rfl) ?_
  refine zz_aload dL_setRow_0 rfl ?_
  refine zz_iconst (v := 0) dL_setRow_2 (by decide) ?_
  refine zz_aload_n dL_setRow_3 rfl ?_
  refine zz_iload_n dL_setRow_4 rfl ?_
  refine zz_iload_n dL_setRow_5 rfl ?_
  refine zz_lload_n dL_setRow_6 rfl ?_
  refine zz_callVX (ci := 4) hC dL_setRow_7 zw_m_L_29 wYX4_setRow wDX4_setRow rfl (by omega) h52 rfl (Nat.le_of_ble_eq_true rfl) (by decide) (Nat.le_refl _) (Nat.le_refl _) rfl (fun v9 τ9 h9 => ?_) (fun E9 τ9 h9 => ?_)
  · obtain ⟨x, oo, rfl, h66, hq⟩ := hv v9 τ9 h9
    refine zz_i2l dL_setRow_10 rfl ?_
    refine zz_last dL_setRow_11 (by omega) h66 (vp_in_nI (n := 0) (N := 1) (by omega) (by omega)) ?_
    refine zz_goto (tgt := 19) dL_setRow_12 (by decide) ?_
    refine zz_iconst (v := 0) dL_setRow_19 (by decide) ?_
    refine zz_iret dL_setRow_20 rfl ?_
    exact hq
  · obtain ⟨rfl, hq⟩ := hx E9 τ9 h9
    exact ⟨1, ⟨[], [], (0, 12, 15, 19), rfl, ⟨by decide, by decide⟩, by decide, zw_l_L_19, by simp [zz_exc], (fun z hz => nomatch hz), Or.inr ⟨6, 1, by decide, dL_setRow_15, dL_setRow_17, by decide, dL_setRow_18⟩⟩, hq⟩
set_option maxHeartbeats 1000000 in
set_option maxRecDepth 20000 in
theorem g_chain (h52 : σ 52 = .inr (4, fs)) (a0 : Int32) {mc ms : Nat} (hC : zz_C mX4_chain 7 mc ms [.ref 52, .int a0] σ Q2) (hv : ∀ v τ, Q2 (.inl v) τ → ∃ (x : Int32) (oo : Nat → Int64), v = some (.int x) ∧ τ 66 = oc oo ∧ Q (.inl (some (.int 0))) (va_up τ 66 (oc (va_up oo 0 (x.toInt64))))) (hx : ∀ E τ, Q2 (.inr E) τ → (E = "java/lang/IndexOutOfBoundsException" ∧ Q (.inl (some (.int 1))) τ)) : zz_C mL_chain 8 mc ms [.ref 52, .int a0, .ref 66] σ Q := by
  refine zz_startH wPL_chain rfl rfl (Nat.le_of_ble_eq_true rfl) ?_
  refine zz_aload_n dL_chain_0 rfl ?_
  refine zz_iconst (v := 0) dL_chain_1 (by decide) ?_
  refine zz_aload_n dL_chain_2 rfl ?_
  refine zz_iload_n dL_chain_3 rfl ?_
  refine zz_callVX (ci := 4) hC dL_chain_4 zw_m_L_33 wYX4_chain wDX4_chain rfl (by omega) h52 rfl (Nat.le_of_ble_eq_true rfl) (by decide) (Nat.le_refl _) (Nat.le_refl _) rfl (fun v9 τ9 h9 => ?_) (fun E9 τ9 h9 => ?_)
  · obtain ⟨x, oo, rfl, h66, hq⟩ := hv v9 τ9 h9
    refine zz_i2l dL_chain_7 rfl ?_
    refine zz_last dL_chain_8 (by omega) h66 (vp_in_nI (n := 0) (N := 1) (by omega) (by omega)) ?_
    refine zz_goto (tgt := 15) dL_chain_9 (by decide) ?_
    refine zz_iconst (v := 0) dL_chain_15 (by decide) ?_
    refine zz_iret dL_chain_16 rfl ?_
    exact hq
  · obtain ⟨rfl, hq⟩ := hx E9 τ9 h9
    exact ⟨1, ⟨[], [], (0, 9, 12, 19), rfl, ⟨by decide, by decide⟩, by decide, zw_l_L_19, by simp [zz_exc], (fun z hz => nomatch hz), Or.inl ⟨3, 1, by decide, dL_chain_12, dL_chain_13, by decide, dL_chain_14⟩⟩, hq⟩
set_option maxHeartbeats 1000000 in
set_option maxRecDepth 20000 in
theorem g_draw (h52 : σ 52 = .inr (4, fs)) (a0 : Int32) (a1 : Int32) (a2 : Int32) {mc ms : Nat} (hC : zz_C mX4_draw 7 mc ms [.ref 52, .int a0, .int a1, .int a2] σ Q2) (hv : ∀ v τ, Q2 (.inl v) τ → ∃ (x : Int32) (oo : Nat → Int64), v = some (.int x) ∧ τ 66 = oc oo ∧ Q (.inl (some (.int 0))) (va_up τ 66 (oc (va_up oo 0 (x.toInt64))))) (hx : ∀ E τ, Q2 (.inr E) τ → (E = "java/lang/IndexOutOfBoundsException" ∧ Q (.inl (some (.int 1))) τ) ∨ (E = "java/lang/IllegalArgumentException" ∧ Q (.inl (some (.int 2))) τ)) : zz_C mL_draw 8 mc ms [.ref 52, .int a0, .int a1, .int a2, .ref 66] σ Q := by
  refine zz_startH wPL_draw rfl rfl (Nat.le_of_ble_eq_true rfl) ?_
  refine zz_aload dL_draw_0 rfl ?_
  refine zz_iconst (v := 0) dL_draw_2 (by decide) ?_
  refine zz_aload_n dL_draw_3 rfl ?_
  refine zz_iload_n dL_draw_4 rfl ?_
  refine zz_iload_n dL_draw_5 rfl ?_
  refine zz_iload_n dL_draw_6 rfl ?_
  refine zz_callVX (ci := 4) hC dL_draw_7 zw_m_L_36 wYX4_draw wDX4_draw rfl (by omega) h52 rfl (Nat.le_of_ble_eq_true rfl) (by decide) (Nat.le_refl _) (Nat.le_refl _) rfl (fun v9 τ9 h9 => ?_) (fun E9 τ9 h9 => ?_)
  · obtain ⟨x, oo, rfl, h66, hq⟩ := hv v9 τ9 h9
    refine zz_i2l dL_draw_10 rfl ?_
    refine zz_last dL_draw_11 (by omega) h66 (vp_in_nI (n := 0) (N := 1) (by omega) (by omega)) ?_
    refine zz_goto (tgt := 23) dL_draw_12 (by decide) ?_
    refine zz_iconst (v := 0) dL_draw_23 (by decide) ?_
    refine zz_iret dL_draw_24 rfl ?_
    exact hq
  · rcases hx E9 τ9 h9 with ⟨rfl, hq⟩ | ⟨rfl, hq⟩
    · exact ⟨1, ⟨[], [(0, 12, 19, 13)], (0, 12, 15, 19), rfl, ⟨by decide, by decide⟩, by decide, zw_l_L_19, by simp [zz_exc], (fun z hz => nomatch hz), Or.inr ⟨5, 1, by decide, dL_draw_15, dL_draw_17, by decide, dL_draw_18⟩⟩, hq⟩
    · exact ⟨2, ⟨[(0, 12, 15, 19)], [], (0, 12, 19, 13), rfl, ⟨by decide, by decide⟩, by decide, zw_l_L_13, by simp [zz_exc], (fun z hz => by rcases List.mem_singleton.mp hz with rfl; exact ⟨by decide, _, zw_l_L_19, by simp [zz_nc]⟩), Or.inr ⟨5, 2, by decide, dL_draw_19, dL_draw_21, by decide, dL_draw_22⟩⟩, hq⟩
set_option maxHeartbeats 1000000 in
set_option maxRecDepth 20000 in
theorem g_copy (h52 : σ 52 = .inr (4, fs)) (a0 : Int32) (a1 : Int32) {mc ms : Nat} (hC : zz_C mX4_copy 7 mc ms [.ref 52, .int a0, .int a1] σ Q2) (hv : ∀ v τ, Q2 (.inl v) τ → ∃ (x : Int32) (oo : Nat → Int64), v = some (.int x) ∧ τ 66 = oc oo ∧ Q (.inl (some (.int 0))) (va_up τ 66 (oc (va_up oo 0 (x.toInt64))))) (hx : ∀ E τ, Q2 (.inr E) τ → (E = "java/lang/IndexOutOfBoundsException" ∧ Q (.inl (some (.int 1))) τ)) : zz_C mL_copy 8 mc ms [.ref 52, .int a0, .int a1, .ref 66] σ Q := by
  refine zz_startH wPL_copy rfl rfl (Nat.le_of_ble_eq_true rfl) ?_
  refine zz_aload_n dL_copy_0 rfl ?_
  refine zz_iconst (v := 0) dL_copy_1 (by decide) ?_
  refine zz_aload_n dL_copy_2 rfl ?_
  refine zz_iload_n dL_copy_3 rfl ?_
  refine zz_iload_n dL_copy_4 rfl ?_
  refine zz_callVX (ci := 4) hC dL_copy_5 zw_m_L_40 wYX4_copy wDX4_copy rfl (by omega) h52 rfl (Nat.le_of_ble_eq_true rfl) (by decide) (Nat.le_refl _) (Nat.le_refl _) rfl (fun v9 τ9 h9 => ?_) (fun E9 τ9 h9 => ?_)
  · obtain ⟨x, oo, rfl, h66, hq⟩ := hv v9 τ9 h9
    refine zz_i2l dL_copy_8 rfl ?_
    refine zz_last dL_copy_9 (by omega) h66 (vp_in_nI (n := 0) (N := 1) (by omega) (by omega)) ?_
    refine zz_goto (tgt := 17) dL_copy_10 (by decide) ?_
    refine zz_iconst (v := 0) dL_copy_17 (by decide) ?_
    refine zz_iret dL_copy_18 rfl ?_
    exact hq
  · obtain ⟨rfl, hq⟩ := hx E9 τ9 h9
    exact ⟨1, ⟨[], [], (0, 10, 13, 19), rfl, ⟨by decide, by decide⟩, by decide, zw_l_L_19, by simp [zz_exc], (fun z hz => nomatch hz), Or.inr ⟨4, 1, by decide, dL_copy_13, dL_copy_15, by decide, dL_copy_16⟩⟩, hq⟩
set_option maxHeartbeats 1000000 in
set_option maxRecDepth 20000 in
theorem g_combine (h52 : σ 52 = .inr (4, fs)) (a0 : Int32) (a1 : Int32) (a2 : Int32) {mc ms : Nat} (hC : zz_C mX4_combine 7 mc ms [.ref 52, .int a0, .int a1, .int a2] σ Q2) (hv : ∀ v τ, Q2 (.inl v) τ → ∃ (x : Int32) (oo : Nat → Int64), v = some (.int x) ∧ τ 66 = oc oo ∧ Q (.inl (some (.int 0))) (va_up τ 66 (oc (va_up oo 0 (x.toInt64))))) (hx : ∀ E τ, Q2 (.inr E) τ → (E = "java/lang/IndexOutOfBoundsException" ∧ Q (.inl (some (.int 1))) τ) ∨ (E = "java/lang/IllegalArgumentException" ∧ Q (.inl (some (.int 2))) τ)) : zz_C mL_combine 8 mc ms [.ref 52, .int a0, .int a1, .int a2, .ref 66] σ Q := by
  refine zz_startH wPL_combine rfl rfl (Nat.le_of_ble_eq_true rfl) ?_
  refine zz_aload dL_combine_0 rfl ?_
  refine zz_iconst (v := 0) dL_combine_2 (by decide) ?_
  refine zz_aload_n dL_combine_3 rfl ?_
  refine zz_iload_n dL_combine_4 rfl ?_
  refine zz_iload_n dL_combine_5 rfl ?_
  refine zz_iload_n dL_combine_6 rfl ?_
  refine zz_callVX (ci := 4) hC dL_combine_7 zw_m_L_44 wYX4_combine wDX4_combine rfl (by omega) h52 rfl (Nat.le_of_ble_eq_true rfl) (by decide) (Nat.le_refl _) (Nat.le_refl _) rfl (fun v9 τ9 h9 => ?_) (fun E9 τ9 h9 => ?_)
  · obtain ⟨x, oo, rfl, h66, hq⟩ := hv v9 τ9 h9
    refine zz_i2l dL_combine_10 rfl ?_
    refine zz_last dL_combine_11 (by omega) h66 (vp_in_nI (n := 0) (N := 1) (by omega) (by omega)) ?_
    refine zz_goto (tgt := 23) dL_combine_12 (by decide) ?_
    refine zz_iconst (v := 0) dL_combine_23 (by decide) ?_
    refine zz_iret dL_combine_24 rfl ?_
    exact hq
  · rcases hx E9 τ9 h9 with ⟨rfl, hq⟩ | ⟨rfl, hq⟩
    · exact ⟨1, ⟨[], [(0, 12, 19, 13)], (0, 12, 15, 19), rfl, ⟨by decide, by decide⟩, by decide, zw_l_L_19, by simp [zz_exc], (fun z hz => nomatch hz), Or.inr ⟨5, 1, by decide, dL_combine_15, dL_combine_17, by decide, dL_combine_18⟩⟩, hq⟩
    · exact ⟨2, ⟨[(0, 12, 15, 19)], [], (0, 12, 19, 13), rfl, ⟨by decide, by decide⟩, by decide, zw_l_L_13, by simp [zz_exc], (fun z hz => by rcases List.mem_singleton.mp hz with rfl; exact ⟨by decide, _, zw_l_L_19, by simp [zz_nc]⟩), Or.inr ⟨5, 2, by decide, dL_combine_19, dL_combine_21, by decide, dL_combine_22⟩⟩, hq⟩
set_option maxHeartbeats 1000000 in
set_option maxRecDepth 20000 in
theorem g_compose (h52 : σ 52 = .inr (4, fs)) (a0 : Int32) (a1 : Int32) (a2 : Int32) {mc ms : Nat} (hC : zz_C mX4_compose 7 mc ms [.ref 52, .int a0, .int a1, .int a2] σ Q2) (hv : ∀ v τ, Q2 (.inl v) τ → ∃ (x : Int32) (oo : Nat → Int64), v = some (.int x) ∧ τ 66 = oc oo ∧ Q (.inl (some (.int 0))) (va_up τ 66 (oc (va_up oo 0 (x.toInt64))))) (hx : ∀ E τ, Q2 (.inr E) τ → (E = "java/lang/IndexOutOfBoundsException" ∧ Q (.inl (some (.int 1))) τ)) : zz_C mL_compose 8 mc ms [.ref 52, .int a0, .int a1, .int a2, .ref 66] σ Q := by
  refine zz_startH wPL_compose rfl rfl (Nat.le_of_ble_eq_true rfl) ?_
  refine zz_aload dL_compose_0 rfl ?_
  refine zz_iconst (v := 0) dL_compose_2 (by decide) ?_
  refine zz_aload_n dL_compose_3 rfl ?_
  refine zz_iload_n dL_compose_4 rfl ?_
  refine zz_iload_n dL_compose_5 rfl ?_
  refine zz_iload_n dL_compose_6 rfl ?_
  refine zz_callVX (ci := 4) hC dL_compose_7 zw_m_L_47 wYX4_compose wDX4_compose rfl (by omega) h52 rfl (Nat.le_of_ble_eq_true rfl) (by decide) (Nat.le_refl _) (Nat.le_refl _) rfl (fun v9 τ9 h9 => ?_) (fun E9 τ9 h9 => ?_)
  · obtain ⟨x, oo, rfl, h66, hq⟩ := hv v9 τ9 h9
    refine zz_i2l dL_compose_10 rfl ?_
    refine zz_last dL_compose_11 (by omega) h66 (vp_in_nI (n := 0) (N := 1) (by omega) (by omega)) ?_
    refine zz_goto (tgt := 19) dL_compose_12 (by decide) ?_
    refine zz_iconst (v := 0) dL_compose_19 (by decide) ?_
    refine zz_iret dL_compose_20 rfl ?_
    exact hq
  · obtain ⟨rfl, hq⟩ := hx E9 τ9 h9
    exact ⟨1, ⟨[], [], (0, 12, 15, 19), rfl, ⟨by decide, by decide⟩, by decide, zw_l_L_19, by simp [zz_exc], (fun z hz => nomatch hz), Or.inr ⟨5, 1, by decide, dL_compose_15, dL_compose_17, by decide, dL_compose_18⟩⟩, hq⟩
set_option maxHeartbeats 1000000 in
set_option maxRecDepth 20000 in
theorem g_turn (h52 : σ 52 = .inr (4, fs)) (a0 : Int32) {mc ms : Nat} (hC : zz_C mX4_turn 7 mc ms [.ref 52, .int a0] σ Q2) (hv : ∀ v τ, Q2 (.inl v) τ → ∃ (x : Int32) (oo : Nat → Int64), v = some (.int x) ∧ τ 66 = oc oo ∧ Q (.inl (some (.int 0))) (va_up τ 66 (oc (va_up oo 0 (x.toInt64))))) (hx : ∀ E τ, Q2 (.inr E) τ → (E = "java/lang/IndexOutOfBoundsException" ∧ Q (.inl (some (.int 1))) τ)) : zz_C mL_turn 8 mc ms [.ref 52, .int a0, .ref 66] σ Q := by
  refine zz_startH wPL_turn rfl rfl (Nat.le_of_ble_eq_true rfl) ?_
  refine zz_aload_n dL_turn_0 rfl ?_
  refine zz_iconst (v := 0) dL_turn_1 (by decide) ?_
  refine zz_aload_n dL_turn_2 rfl ?_
  refine zz_iload_n dL_turn_3 rfl ?_
  refine zz_callVX (ci := 4) hC dL_turn_4 zw_m_L_50 wYX4_turn wDX4_turn rfl (by omega) h52 rfl (Nat.le_of_ble_eq_true rfl) (by decide) (Nat.le_refl _) (Nat.le_refl _) rfl (fun v9 τ9 h9 => ?_) (fun E9 τ9 h9 => ?_)
  · obtain ⟨x, oo, rfl, h66, hq⟩ := hv v9 τ9 h9
    refine zz_i2l dL_turn_7 rfl ?_
    refine zz_last dL_turn_8 (by omega) h66 (vp_in_nI (n := 0) (N := 1) (by omega) (by omega)) ?_
    refine zz_goto (tgt := 15) dL_turn_9 (by decide) ?_
    refine zz_iconst (v := 0) dL_turn_15 (by decide) ?_
    refine zz_iret dL_turn_16 rfl ?_
    exact hq
  · obtain ⟨rfl, hq⟩ := hx E9 τ9 h9
    exact ⟨1, ⟨[], [], (0, 9, 12, 19), rfl, ⟨by decide, by decide⟩, by decide, zw_l_L_19, by simp [zz_exc], (fun z hz => nomatch hz), Or.inl ⟨3, 1, by decide, dL_turn_12, dL_turn_13, by decide, dL_turn_14⟩⟩, hq⟩
set_option maxHeartbeats 1000000 in
set_option maxRecDepth 20000 in
theorem g_oppose (h52 : σ 52 = .inr (4, fs)) (a0 : Int32) {mc ms : Nat} (hC : zz_C mX4_oppose 7 mc ms [.ref 52, .int a0] σ Q2) (hv : ∀ v τ, Q2 (.inl v) τ → ∃ (x : Int32) (oo : Nat → Int64), v = some (.int x) ∧ τ 66 = oc oo ∧ Q (.inl (some (.int 0))) (va_up τ 66 (oc (va_up oo 0 (x.toInt64))))) (hx : ∀ E τ, Q2 (.inr E) τ → (E = "java/lang/IndexOutOfBoundsException" ∧ Q (.inl (some (.int 1))) τ)) : zz_C mL_oppose 8 mc ms [.ref 52, .int a0, .ref 66] σ Q := by
  refine zz_startH wPL_oppose rfl rfl (Nat.le_of_ble_eq_true rfl) ?_
  refine zz_aload_n dL_oppose_0 rfl ?_
  refine zz_iconst (v := 0) dL_oppose_1 (by decide) ?_
  refine zz_aload_n dL_oppose_2 rfl ?_
  refine zz_iload_n dL_oppose_3 rfl ?_
  refine zz_callVX (ci := 4) hC dL_oppose_4 zw_m_L_53 wYX4_oppose wDX4_oppose rfl (by omega) h52 rfl (Nat.le_of_ble_eq_true rfl) (by decide) (Nat.le_refl _) (Nat.le_refl _) rfl (fun v9 τ9 h9 => ?_) (fun E9 τ9 h9 => ?_)
  · obtain ⟨x, oo, rfl, h66, hq⟩ := hv v9 τ9 h9
    refine zz_i2l dL_oppose_7 rfl ?_
    refine zz_last dL_oppose_8 (by omega) h66 (vp_in_nI (n := 0) (N := 1) (by omega) (by omega)) ?_
    refine zz_goto (tgt := 15) dL_oppose_9 (by decide) ?_
    refine zz_iconst (v := 0) dL_oppose_15 (by decide) ?_
    refine zz_iret dL_oppose_16 rfl ?_
    exact hq
  · obtain ⟨rfl, hq⟩ := hx E9 τ9 h9
    exact ⟨1, ⟨[], [], (0, 9, 12, 19), rfl, ⟨by decide, by decide⟩, by decide, zw_l_L_19, by simp [zz_exc], (fun z hz => nomatch hz), Or.inl ⟨3, 1, by decide, dL_oppose_12, dL_oppose_13, by decide, dL_oppose_14⟩⟩, hq⟩
set_option maxHeartbeats 1000000 in
set_option maxRecDepth 20000 in
theorem g_close (h52 : σ 52 = .inr (4, fs)) (a0 : Int32) (a1 : Int32) {mc ms : Nat} (hC : zz_C mX4_close 7 mc ms [.ref 52, .int a0, .int a1] σ Q2) (hv : ∀ v τ, Q2 (.inl v) τ → ∃ (x : Int32) (oo : Nat → Int64), v = some (.int x) ∧ τ 66 = oc oo ∧ Q (.inl (some (.int 0))) (va_up τ 66 (oc (va_up oo 0 (x.toInt64))))) (hx : ∀ E τ, Q2 (.inr E) τ → (E = "java/lang/IndexOutOfBoundsException" ∧ Q (.inl (some (.int 1))) τ)) : zz_C mL_close 8 mc ms [.ref 52, .int a0, .int a1, .ref 66] σ Q := by
  refine zz_startH wPL_close rfl rfl (Nat.le_of_ble_eq_true rfl) ?_
  refine zz_aload_n dL_close_0 rfl ?_
  refine zz_iconst (v := 0) dL_close_1 (by decide) ?_
  refine zz_aload_n dL_close_2 rfl ?_
  refine zz_iload_n dL_close_3 rfl ?_
  refine zz_iload_n dL_close_4 rfl ?_
  refine zz_callVX (ci := 4) hC dL_close_5 zw_m_L_56 wYX4_close wDX4_close rfl (by omega) h52 rfl (Nat.le_of_ble_eq_true rfl) (by decide) (Nat.le_refl _) (Nat.le_refl _) rfl (fun v9 τ9 h9 => ?_) (fun E9 τ9 h9 => ?_)
  · obtain ⟨x, oo, rfl, h66, hq⟩ := hv v9 τ9 h9
    refine zz_i2l dL_close_8 rfl ?_
    refine zz_last dL_close_9 (by omega) h66 (vp_in_nI (n := 0) (N := 1) (by omega) (by omega)) ?_
    refine zz_goto (tgt := 17) dL_close_10 (by decide) ?_
    refine zz_iconst (v := 0) dL_close_17 (by decide) ?_
    refine zz_iret dL_close_18 rfl ?_
    exact hq
  · obtain ⟨rfl, hq⟩ := hx E9 τ9 h9
    exact ⟨1, ⟨[], [], (0, 10, 13, 19), rfl, ⟨by decide, by decide⟩, by decide, zw_l_L_19, by simp [zz_exc], (fun z hz => nomatch hz), Or.inr ⟨4, 1, by decide, dL_close_13, dL_close_15, by decide, dL_close_16⟩⟩, hq⟩
set_option maxHeartbeats 1000000 in
set_option maxRecDepth 20000 in
theorem g_cover (h52 : σ 52 = .inr (4, fs)) (a0 : Int32) (a1 : Int32) {mc ms : Nat} (hC : zz_C mX4_cover 7 mc ms [.ref 52, .int a0, .int a1] σ Q2) (hv : ∀ v τ, Q2 (.inl v) τ → ∃ (x : Int32) (oo : Nat → Int64), v = some (.int x) ∧ τ 66 = oc oo ∧ Q (.inl (some (.int 0))) (va_up τ 66 (oc (va_up oo 0 (x.toInt64))))) (hx : ∀ E τ, Q2 (.inr E) τ → (E = "java/lang/IndexOutOfBoundsException" ∧ Q (.inl (some (.int 1))) τ) ∨ (E = "java/lang/IllegalStateException" ∧ Q (.inl (some (.int 2))) τ)) : zz_C mL_cover 8 mc ms [.ref 52, .int a0, .int a1, .ref 66] σ Q := by
  refine zz_startH wPL_cover rfl rfl (Nat.le_of_ble_eq_true rfl) ?_
  refine zz_aload_n dL_cover_0 rfl ?_
  refine zz_iconst (v := 0) dL_cover_1 (by decide) ?_
  refine zz_aload_n dL_cover_2 rfl ?_
  refine zz_iload_n dL_cover_3 rfl ?_
  refine zz_iload_n dL_cover_4 rfl ?_
  refine zz_callVX (ci := 4) hC dL_cover_5 zw_m_L_60 wYX4_cover wDX4_cover rfl (by omega) h52 rfl (Nat.le_of_ble_eq_true rfl) (by decide) (Nat.le_refl _) (Nat.le_refl _) rfl (fun v9 τ9 h9 => ?_) (fun E9 τ9 h9 => ?_)
  · obtain ⟨x, oo, rfl, h66, hq⟩ := hv v9 τ9 h9
    refine zz_i2l dL_cover_8 rfl ?_
    refine zz_last dL_cover_9 (by omega) h66 (vp_in_nI (n := 0) (N := 1) (by omega) (by omega)) ?_
    refine zz_goto (tgt := 21) dL_cover_10 (by decide) ?_
    refine zz_iconst (v := 0) dL_cover_21 (by decide) ?_
    refine zz_iret dL_cover_22 rfl ?_
    exact hq
  · rcases hx E9 τ9 h9 with ⟨rfl, hq⟩ | ⟨rfl, hq⟩
    · exact ⟨1, ⟨[], [(0, 10, 17, 63)], (0, 10, 13, 19), rfl, ⟨by decide, by decide⟩, by decide, zw_l_L_19, by simp [zz_exc], (fun z hz => nomatch hz), Or.inr ⟨4, 1, by decide, dL_cover_13, dL_cover_15, by decide, dL_cover_16⟩⟩, hq⟩
    · exact ⟨2, ⟨[(0, 10, 13, 19)], [], (0, 10, 17, 63), rfl, ⟨by decide, by decide⟩, by decide, zw_l_L_63, by simp [zz_exc], (fun z hz => by rcases List.mem_singleton.mp hz with rfl; exact ⟨by decide, _, zw_l_L_19, by simp [zz_nc]⟩), Or.inr ⟨4, 2, by decide, dL_cover_17, dL_cover_19, by decide, dL_cover_20⟩⟩, hq⟩
set_option maxHeartbeats 1000000 in
set_option maxRecDepth 20000 in
theorem g_has (h52 : σ 52 = .inr (4, fs)) (a0 : Int32) (a1 : Int32) (a2 : Int32) {mc ms : Nat} (hC : zz_C mX4_has 7 mc ms [.ref 52, .int a0, .int a1, .int a2] σ Q2) (hv : ∀ v τ, Q2 (.inl v) τ → ∃ (x : Bool) (oo : Nat → Int64), v = some (.int (zB x)) ∧ τ 66 = oc oo ∧ Q (.inl (some (.int 0))) (va_up τ 66 (oc (va_up oo 0 (zL x))))) (hx : ∀ E τ, Q2 (.inr E) τ → (E = "java/lang/IndexOutOfBoundsException" ∧ Q (.inl (some (.int 1))) τ)) : zz_C mL_has 8 mc ms [.ref 52, .int a0, .int a1, .int a2, .ref 66] σ Q := by
  refine zz_startH wPL_has rfl rfl (Nat.le_of_ble_eq_true rfl) ?_
  refine zz_aload dL_has_0 rfl ?_
  refine zz_iconst (v := 0) dL_has_2 (by decide) ?_
  refine zz_aload_n dL_has_3 rfl ?_
  refine zz_iload_n dL_has_4 rfl ?_
  refine zz_iload_n dL_has_5 rfl ?_
  refine zz_iload_n dL_has_6 rfl ?_
  refine zz_callVX (ci := 4) hC dL_has_7 zw_m_L_65 wYX4_has wDX4_has rfl (by omega) h52 rfl (Nat.le_of_ble_eq_true rfl) (by decide) (Nat.le_refl _) (Nat.le_refl _) rfl (fun v9 τ9 h9 => ?_) (fun E9 τ9 h9 => ?_)
  · obtain ⟨x, oo, rfl, h66, hq⟩ := hv v9 τ9 h9
    refine zz_nzL dL_has_10 dL_has_13 dL_has_14 dL_has_17 ?_
    refine zz_last dL_has_18 (by omega) h66 (vp_in_nI (n := 0) (N := 1) (by omega) (by omega)) ?_
    refine zz_goto (tgt := 26) dL_has_19 (by decide) ?_
    refine zz_iconst (v := 0) dL_has_26 (by decide) ?_
    refine zz_iret dL_has_27 rfl ?_
    exact hq
  · obtain ⟨rfl, hq⟩ := hx E9 τ9 h9
    exact ⟨1, ⟨[], [], (0, 19, 22, 19), rfl, ⟨by decide, by decide⟩, by decide, zw_l_L_19, by simp [zz_exc], (fun z hz => nomatch hz), Or.inr ⟨5, 1, by decide, dL_has_22, dL_has_24, by decide, dL_has_25⟩⟩, hq⟩
set_option maxHeartbeats 1000000 in
set_option maxRecDepth 20000 in
theorem g_count (h52 : σ 52 = .inr (4, fs)) (a0 : Int32) {mc ms : Nat} (hC : zz_C mX4_count 7 mc ms [.ref 52, .int a0] σ Q2) (hv : ∀ v τ, Q2 (.inl v) τ → ∃ (x : Int32) (oo : Nat → Int64), v = some (.int x) ∧ τ 66 = oc oo ∧ Q (.inl (some (.int 0))) (va_up τ 66 (oc (va_up oo 0 (x.toInt64))))) (hx : ∀ E τ, Q2 (.inr E) τ → (E = "java/lang/IndexOutOfBoundsException" ∧ Q (.inl (some (.int 1))) τ)) : zz_C mL_count 8 mc ms [.ref 52, .int a0, .ref 66] σ Q := by
  refine zz_startH wPL_count rfl rfl (Nat.le_of_ble_eq_true rfl) ?_
  refine zz_aload_n dL_count_0 rfl ?_
  refine zz_iconst (v := 0) dL_count_1 (by decide) ?_
  refine zz_aload_n dL_count_2 rfl ?_
  refine zz_iload_n dL_count_3 rfl ?_
  refine zz_callVX (ci := 4) hC dL_count_4 zw_m_L_69 wYX4_count wDX4_count rfl (by omega) h52 rfl (Nat.le_of_ble_eq_true rfl) (by decide) (Nat.le_refl _) (Nat.le_refl _) rfl (fun v9 τ9 h9 => ?_) (fun E9 τ9 h9 => ?_)
  · obtain ⟨x, oo, rfl, h66, hq⟩ := hv v9 τ9 h9
    refine zz_i2l dL_count_7 rfl ?_
    refine zz_last dL_count_8 (by omega) h66 (vp_in_nI (n := 0) (N := 1) (by omega) (by omega)) ?_
    refine zz_goto (tgt := 15) dL_count_9 (by decide) ?_
    refine zz_iconst (v := 0) dL_count_15 (by decide) ?_
    refine zz_iret dL_count_16 rfl ?_
    exact hq
  · obtain ⟨rfl, hq⟩ := hx E9 τ9 h9
    exact ⟨1, ⟨[], [], (0, 9, 12, 19), rfl, ⟨by decide, by decide⟩, by decide, zw_l_L_19, by simp [zz_exc], (fun z hz => nomatch hz), Or.inl ⟨3, 1, by decide, dL_count_12, dL_count_13, by decide, dL_count_14⟩⟩, hq⟩
set_option maxHeartbeats 1000000 in
set_option maxRecDepth 20000 in
theorem g_countOf (h52 : σ 52 = .inr (4, fs)) (a0 : Int32) (a1 : Int32) {mc ms : Nat} (hC : zz_C mX4_countOf 7 mc ms [.ref 52, .int a0, .int a1] σ Q2) (hv : ∀ v τ, Q2 (.inl v) τ → ∃ (x : Int32) (oo : Nat → Int64), v = some (.int x) ∧ τ 66 = oc oo ∧ Q (.inl (some (.int 0))) (va_up τ 66 (oc (va_up oo 0 (x.toInt64))))) (hx : ∀ E τ, Q2 (.inr E) τ → (E = "java/lang/IndexOutOfBoundsException" ∧ Q (.inl (some (.int 1))) τ)) : zz_C mL_countOf 8 mc ms [.ref 52, .int a0, .int a1, .ref 66] σ Q := by
  refine zz_startH wPL_countOf rfl rfl (Nat.le_of_ble_eq_true rfl) ?_
  refine zz_aload_n dL_countOf_0 rfl ?_
  refine zz_iconst (v := 0) dL_countOf_1 (by decide) ?_
  refine zz_aload_n dL_countOf_2 rfl ?_
  refine zz_iload_n dL_countOf_3 rfl ?_
  refine zz_iload_n dL_countOf_4 rfl ?_
  refine zz_callVX (ci := 4) hC dL_countOf_5 zw_m_L_72 wYX4_countOf wDX4_countOf rfl (by omega) h52 rfl (Nat.le_of_ble_eq_true rfl) (by decide) (Nat.le_refl _) (Nat.le_refl _) rfl (fun v9 τ9 h9 => ?_) (fun E9 τ9 h9 => ?_)
  · obtain ⟨x, oo, rfl, h66, hq⟩ := hv v9 τ9 h9
    refine zz_i2l dL_countOf_8 rfl ?_
    refine zz_last dL_countOf_9 (by omega) h66 (vp_in_nI (n := 0) (N := 1) (by omega) (by omega)) ?_
    refine zz_goto (tgt := 17) dL_countOf_10 (by decide) ?_
    refine zz_iconst (v := 0) dL_countOf_17 (by decide) ?_
    refine zz_iret dL_countOf_18 rfl ?_
    exact hq
  · obtain ⟨rfl, hq⟩ := hx E9 τ9 h9
    exact ⟨1, ⟨[], [], (0, 10, 13, 19), rfl, ⟨by decide, by decide⟩, by decide, zw_l_L_19, by simp [zz_exc], (fun z hz => nomatch hz), Or.inr ⟨4, 1, by decide, dL_countOf_13, dL_countOf_15, by decide, dL_countOf_16⟩⟩, hq⟩
set_option maxHeartbeats 1000000 in
set_option maxRecDepth 20000 in
theorem g_beside (h52 : σ 52 = .inr (4, fs)) (a0 : Int32) (a1 : Int32) (a2 : Int32) (a3 : Int32) {mc ms : Nat} (hC : zz_C mX4_beside 7 mc ms [.ref 52, .int a0, .int a1, .int a2, .int a3] σ Q2) (hv : ∀ v τ, Q2 (.inl v) τ → ∃ (x : Int32) (oo : Nat → Int64), v = some (.int x) ∧ τ 66 = oc oo ∧ Q (.inl (some (.int 0))) (va_up τ 66 (oc (va_up oo 0 (x.toInt64))))) (hx : ∀ E τ, Q2 (.inr E) τ → (E = "java/lang/IndexOutOfBoundsException" ∧ Q (.inl (some (.int 1))) τ) ∨ (E = "java/lang/IllegalArgumentException" ∧ Q (.inl (some (.int 2))) τ)) : zz_C mL_beside 8 mc ms [.ref 52, .int a0, .int a1, .int a2, .int a3, .ref 66] σ Q := by
  refine zz_startH wPL_beside rfl rfl (Nat.le_of_ble_eq_true rfl) ?_
  refine zz_aload dL_beside_0 rfl ?_
  refine zz_iconst (v := 0) dL_beside_2 (by decide) ?_
  refine zz_aload_n dL_beside_3 rfl ?_
  refine zz_iload_n dL_beside_4 rfl ?_
  refine zz_iload_n dL_beside_5 rfl ?_
  refine zz_iload_n dL_beside_6 rfl ?_
  refine zz_iload dL_beside_7 rfl ?_
  refine zz_callVX (ci := 4) hC dL_beside_9 zw_m_L_75 wYX4_beside wDX4_beside rfl (by omega) h52 rfl (Nat.le_of_ble_eq_true rfl) (by decide) (Nat.le_refl _) (Nat.le_refl _) rfl (fun v9 τ9 h9 => ?_) (fun E9 τ9 h9 => ?_)
  · obtain ⟨x, oo, rfl, h66, hq⟩ := hv v9 τ9 h9
    refine zz_i2l dL_beside_12 rfl ?_
    refine zz_last dL_beside_13 (by omega) h66 (vp_in_nI (n := 0) (N := 1) (by omega) (by omega)) ?_
    refine zz_goto (tgt := 25) dL_beside_14 (by decide) ?_
    refine zz_iconst (v := 0) dL_beside_25 (by decide) ?_
    refine zz_iret dL_beside_26 rfl ?_
    exact hq
  · rcases hx E9 τ9 h9 with ⟨rfl, hq⟩ | ⟨rfl, hq⟩
    · exact ⟨1, ⟨[], [(0, 14, 21, 13)], (0, 14, 17, 19), rfl, ⟨by decide, by decide⟩, by decide, zw_l_L_19, by simp [zz_exc], (fun z hz => nomatch hz), Or.inr ⟨6, 1, by decide, dL_beside_17, dL_beside_19, by decide, dL_beside_20⟩⟩, hq⟩
    · exact ⟨2, ⟨[(0, 14, 17, 19)], [], (0, 14, 21, 13), rfl, ⟨by decide, by decide⟩, by decide, zw_l_L_13, by simp [zz_exc], (fun z hz => by rcases List.mem_singleton.mp hz with rfl; exact ⟨by decide, _, zw_l_L_19, by simp [zz_nc]⟩), Or.inr ⟨6, 2, by decide, dL_beside_21, dL_beside_23, by decide, dL_beside_24⟩⟩, hq⟩
set_option maxHeartbeats 1000000 in
set_option maxRecDepth 20000 in
theorem g_wordOf (h52 : σ 52 = .inr (4, fs)) (a0 : Int32) (a1 : Int32) (a2 : Int32) {mc ms : Nat} (hC : zz_C mX4_wordOf 7 mc ms [.ref 52, .int a0, .int a1, .int a2] σ Q2) (hv : ∀ v τ, Q2 (.inl v) τ → ∃ (x : Int64) (oo : Nat → Int64), v = some (.long x) ∧ τ 66 = oc oo ∧ Q (.inl (some (.int 0))) (va_up τ 66 (oc (va_up oo 0 (x))))) (hx : ∀ E τ, Q2 (.inr E) τ → (E = "java/lang/IndexOutOfBoundsException" ∧ Q (.inl (some (.int 1))) τ) ∨ (E = "java/lang/IllegalArgumentException" ∧ Q (.inl (some (.int 2))) τ)) : zz_C mL_wordOf 8 mc ms [.ref 52, .int a0, .int a1, .int a2, .ref 66] σ Q := by
  refine zz_startH wPL_wordOf rfl rfl (Nat.le_of_ble_eq_true rfl) ?_
  refine zz_aload dL_wordOf_0 rfl ?_
  refine zz_iconst (v := 0) dL_wordOf_2 (by decide) ?_
  refine zz_aload_n dL_wordOf_3 rfl ?_
  refine zz_iload_n dL_wordOf_4 rfl ?_
  refine zz_iload_n dL_wordOf_5 rfl ?_
  refine zz_iload_n dL_wordOf_6 rfl ?_
  refine zz_callVX (ci := 4) hC dL_wordOf_7 zw_m_L_78 wYX4_wordOf wDX4_wordOf rfl (by omega) h52 rfl (Nat.le_of_ble_eq_true rfl) (by decide) (Nat.le_refl _) (Nat.le_refl _) rfl (fun v9 τ9 h9 => ?_) (fun E9 τ9 h9 => ?_)
  · obtain ⟨x, oo, rfl, h66, hq⟩ := hv v9 τ9 h9
    refine zz_last dL_wordOf_10 (by omega) h66 (vp_in_nI (n := 0) (N := 1) (by omega) (by omega)) ?_
    refine zz_goto (tgt := 22) dL_wordOf_11 (by decide) ?_
    refine zz_iconst (v := 0) dL_wordOf_22 (by decide) ?_
    refine zz_iret dL_wordOf_23 rfl ?_
    exact hq
  · rcases hx E9 τ9 h9 with ⟨rfl, hq⟩ | ⟨rfl, hq⟩
    · exact ⟨1, ⟨[], [(0, 11, 18, 13)], (0, 11, 14, 19), rfl, ⟨by decide, by decide⟩, by decide, zw_l_L_19, by simp [zz_exc], (fun z hz => nomatch hz), Or.inr ⟨5, 1, by decide, dL_wordOf_14, dL_wordOf_16, by decide, dL_wordOf_17⟩⟩, hq⟩
    · exact ⟨2, ⟨[(0, 11, 14, 19)], [], (0, 11, 18, 13), rfl, ⟨by decide, by decide⟩, by decide, zw_l_L_13, by simp [zz_exc], (fun z hz => by rcases List.mem_singleton.mp hz with rfl; exact ⟨by decide, _, zw_l_L_19, by simp [zz_nc]⟩), Or.inr ⟨5, 2, by decide, dL_wordOf_18, dL_wordOf_20, by decide, dL_wordOf_21⟩⟩, hq⟩
set_option maxHeartbeats 1000000 in
set_option maxRecDepth 20000 in
theorem g_meet (h52 : σ 52 = .inr (4, fs)) (a0 : Int32) (a1 : Int32) (a2 : Int32) (a3 : Int32) {mc ms : Nat} (hC : zz_C mX4_meet 7 mc ms [.ref 52, .int a0, .int a1, .int a2, .int a3] σ Q2) (hv : ∀ v τ, Q2 (.inl v) τ → ∃ (x : Bool) (oo : Nat → Int64), v = some (.int (zB x)) ∧ τ 66 = oc oo ∧ Q (.inl (some (.int 0))) (va_up τ 66 (oc (va_up oo 0 (zL x))))) (hx : ∀ E τ, Q2 (.inr E) τ → (E = "java/lang/IndexOutOfBoundsException" ∧ Q (.inl (some (.int 1))) τ)) : zz_C mL_meet 8 mc ms [.ref 52, .int a0, .int a1, .int a2, .int a3, .ref 66] σ Q := by
  refine zz_startH wPL_meet rfl rfl (Nat.le_of_ble_eq_true rfl) ?_
  refine zz_aload dL_meet_0 rfl ?_
  refine zz_iconst (v := 0) dL_meet_2 (by decide) ?_
  refine zz_aload_n dL_meet_3 rfl ?_
  refine zz_iload_n dL_meet_4 rfl ?_
  refine zz_iload_n dL_meet_5 rfl ?_
  refine zz_iload_n dL_meet_6 rfl ?_
  refine zz_iload dL_meet_7 rfl ?_
  refine zz_callVX (ci := 4) hC dL_meet_9 zw_m_L_82 wYX4_meet wDX4_meet rfl (by omega) h52 rfl (Nat.le_of_ble_eq_true rfl) (by decide) (Nat.le_refl _) (Nat.le_refl _) rfl (fun v9 τ9 h9 => ?_) (fun E9 τ9 h9 => ?_)
  · obtain ⟨x, oo, rfl, h66, hq⟩ := hv v9 τ9 h9
    refine zz_nzL dL_meet_12 dL_meet_15 dL_meet_16 dL_meet_19 ?_
    refine zz_last dL_meet_20 (by omega) h66 (vp_in_nI (n := 0) (N := 1) (by omega) (by omega)) ?_
    refine zz_goto (tgt := 28) dL_meet_21 (by decide) ?_
    refine zz_iconst (v := 0) dL_meet_28 (by decide) ?_
    refine zz_iret dL_meet_29 rfl ?_
    exact hq
  · obtain ⟨rfl, hq⟩ := hx E9 τ9 h9
    exact ⟨1, ⟨[], [], (0, 21, 24, 19), rfl, ⟨by decide, by decide⟩, by decide, zw_l_L_19, by simp [zz_exc], (fun z hz => nomatch hz), Or.inr ⟨6, 1, by decide, dL_meet_24, dL_meet_26, by decide, dL_meet_27⟩⟩, hq⟩
set_option maxHeartbeats 1000000 in
set_option maxRecDepth 20000 in
theorem g_compare (h52 : σ 52 = .inr (4, fs)) (a0 : Int32) (a1 : Int32) {mc ms : Nat} (hC : zz_C mX4_compare 7 mc ms [.ref 52, .int a0, .int a1] σ Q2) (hv : ∀ v τ, Q2 (.inl v) τ → ∃ (x : Int32) (oo : Nat → Int64), v = some (.int x) ∧ τ 66 = oc oo ∧ Q (.inl (some (.int 0))) (va_up τ 66 (oc (va_up oo 0 (x.toInt64))))) (hx : ∀ E τ, Q2 (.inr E) τ → (E = "java/lang/IndexOutOfBoundsException" ∧ Q (.inl (some (.int 1))) τ)) : zz_C mL_compare 8 mc ms [.ref 52, .int a0, .int a1, .ref 66] σ Q := by
  refine zz_startH wPL_compare rfl rfl (Nat.le_of_ble_eq_true rfl) ?_
  refine zz_aload_n dL_compare_0 rfl ?_
  refine zz_iconst (v := 0) dL_compare_1 (by decide) ?_
  refine zz_aload_n dL_compare_2 rfl ?_
  refine zz_iload_n dL_compare_3 rfl ?_
  refine zz_iload_n dL_compare_4 rfl ?_
  refine zz_callVX (ci := 4) hC dL_compare_5 zw_m_L_86 wYX4_compare wDX4_compare rfl (by omega) h52 rfl (Nat.le_of_ble_eq_true rfl) (by decide) (Nat.le_refl _) (Nat.le_refl _) rfl (fun v9 τ9 h9 => ?_) (fun E9 τ9 h9 => ?_)
  · obtain ⟨x, oo, rfl, h66, hq⟩ := hv v9 τ9 h9
    refine zz_i2l dL_compare_8 rfl ?_
    refine zz_last dL_compare_9 (by omega) h66 (vp_in_nI (n := 0) (N := 1) (by omega) (by omega)) ?_
    refine zz_goto (tgt := 17) dL_compare_10 (by decide) ?_
    refine zz_iconst (v := 0) dL_compare_17 (by decide) ?_
    refine zz_iret dL_compare_18 rfl ?_
    exact hq
  · obtain ⟨rfl, hq⟩ := hx E9 τ9 h9
    exact ⟨1, ⟨[], [], (0, 10, 13, 19), rfl, ⟨by decide, by decide⟩, by decide, zw_l_L_19, by simp [zz_exc], (fun z hz => nomatch hz), Or.inr ⟨4, 1, by decide, dL_compare_13, dL_compare_15, by decide, dL_compare_16⟩⟩, hq⟩
set_option maxHeartbeats 1000000 in
set_option maxRecDepth 20000 in
theorem g_is (h52 : σ 52 = .inr (4, fs)) (a0 : Int32) (a1 : Int32) {mc ms : Nat} (hC : zz_C mX4_is 7 mc ms [.ref 52, .int a0, .int a1] σ Q2) (hv : ∀ v τ, Q2 (.inl v) τ → ∃ (x : Bool) (oo : Nat → Int64), v = some (.int (zB x)) ∧ τ 66 = oc oo ∧ Q (.inl (some (.int 0))) (va_up τ 66 (oc (va_up oo 0 (zL x))))) (hx : ∀ E τ, Q2 (.inr E) τ → (E = "java/lang/IndexOutOfBoundsException" ∧ Q (.inl (some (.int 1))) τ) ∨ (E = "java/lang/IllegalArgumentException" ∧ Q (.inl (some (.int 2))) τ)) : zz_C mL_is 8 mc ms [.ref 52, .int a0, .int a1, .ref 66] σ Q := by
  refine zz_startH wPL_is rfl rfl (Nat.le_of_ble_eq_true rfl) ?_
  refine zz_aload_n dL_is_0 rfl ?_
  refine zz_iconst (v := 0) dL_is_1 (by decide) ?_
  refine zz_aload_n dL_is_2 rfl ?_
  refine zz_iload_n dL_is_3 rfl ?_
  refine zz_iload_n dL_is_4 rfl ?_
  refine zz_callVX (ci := 4) hC dL_is_5 zw_m_L_89 wYX4_is wDX4_is rfl (by omega) h52 rfl (Nat.le_of_ble_eq_true rfl) (by decide) (Nat.le_refl _) (Nat.le_refl _) rfl (fun v9 τ9 h9 => ?_) (fun E9 τ9 h9 => ?_)
  · obtain ⟨x, oo, rfl, h66, hq⟩ := hv v9 τ9 h9
    refine zz_nzL dL_is_8 dL_is_11 dL_is_12 dL_is_15 ?_
    refine zz_last dL_is_16 (by omega) h66 (vp_in_nI (n := 0) (N := 1) (by omega) (by omega)) ?_
    refine zz_goto (tgt := 28) dL_is_17 (by decide) ?_
    refine zz_iconst (v := 0) dL_is_28 (by decide) ?_
    refine zz_iret dL_is_29 rfl ?_
    exact hq
  · rcases hx E9 τ9 h9 with ⟨rfl, hq⟩ | ⟨rfl, hq⟩
    · exact ⟨1, ⟨[], [(0, 17, 24, 13)], (0, 17, 20, 19), rfl, ⟨by decide, by decide⟩, by decide, zw_l_L_19, by simp [zz_exc], (fun z hz => nomatch hz), Or.inr ⟨4, 1, by decide, dL_is_20, dL_is_22, by decide, dL_is_23⟩⟩, hq⟩
    · exact ⟨2, ⟨[(0, 17, 20, 19)], [], (0, 17, 24, 13), rfl, ⟨by decide, by decide⟩, by decide, zw_l_L_13, by simp [zz_exc], (fun z hz => by rcases List.mem_singleton.mp hz with rfl; exact ⟨by decide, _, zw_l_L_19, by simp [zz_nc]⟩), Or.inr ⟨4, 2, by decide, dL_is_24, dL_is_26, by decide, dL_is_27⟩⟩, hq⟩
set_option maxHeartbeats 1000000 in
set_option maxRecDepth 20000 in
theorem g_steps (h52 : σ 52 = .inr (4, fs)) (a0 : Int32) (a1 : Int32) (a2 : Int32) {mc ms : Nat} (hC : zz_C mX4_steps 7 mc ms [.ref 52, .int a0, .int a1, .int a2] σ Q2) (hv : ∀ v τ, Q2 (.inl v) τ → ∃ (x : Int32) (oo : Nat → Int64), v = some (.int x) ∧ τ 66 = oc oo ∧ Q (.inl (some (.int 0))) (va_up τ 66 (oc (va_up oo 0 (x.toInt64))))) (hx : ∀ E τ, Q2 (.inr E) τ → (E = "java/lang/IndexOutOfBoundsException" ∧ Q (.inl (some (.int 1))) τ)) : zz_C mL_steps 8 mc ms [.ref 52, .int a0, .int a1, .int a2, .ref 66] σ Q := by
  refine zz_startH wPL_steps rfl rfl (Nat.le_of_ble_eq_true rfl) ?_
  refine zz_aload dL_steps_0 rfl ?_
  refine zz_iconst (v := 0) dL_steps_2 (by decide) ?_
  refine zz_aload_n dL_steps_3 rfl ?_
  refine zz_iload_n dL_steps_4 rfl ?_
  refine zz_iload_n dL_steps_5 rfl ?_
  refine zz_iload_n dL_steps_6 rfl ?_
  refine zz_callVX (ci := 4) hC dL_steps_7 zw_m_L_93 wYX4_steps wDX4_steps rfl (by omega) h52 rfl (Nat.le_of_ble_eq_true rfl) (by decide) (Nat.le_refl _) (Nat.le_refl _) rfl (fun v9 τ9 h9 => ?_) (fun E9 τ9 h9 => ?_)
  · obtain ⟨x, oo, rfl, h66, hq⟩ := hv v9 τ9 h9
    refine zz_i2l dL_steps_10 rfl ?_
    refine zz_last dL_steps_11 (by omega) h66 (vp_in_nI (n := 0) (N := 1) (by omega) (by omega)) ?_
    refine zz_goto (tgt := 19) dL_steps_12 (by decide) ?_
    refine zz_iconst (v := 0) dL_steps_19 (by decide) ?_
    refine zz_iret dL_steps_20 rfl ?_
    exact hq
  · obtain ⟨rfl, hq⟩ := hx E9 τ9 h9
    exact ⟨1, ⟨[], [], (0, 12, 15, 19), rfl, ⟨by decide, by decide⟩, by decide, zw_l_L_19, by simp [zz_exc], (fun z hz => nomatch hz), Or.inr ⟨5, 1, by decide, dL_steps_15, dL_steps_17, by decide, dL_steps_18⟩⟩, hq⟩
set_option maxHeartbeats 1000000 in
set_option maxRecDepth 20000 in
theorem g_classOf (h52 : σ 52 = .inr (4, fs)) (a0 : Int32) (a1 : Int32) {mc ms : Nat} (hC : zz_C mX4_classOf 7 mc ms [.ref 52, .int a0, .int a1] σ Q2) (hv : ∀ v τ, Q2 (.inl v) τ → ∃ (x : Int32) (oo : Nat → Int64), v = some (.int x) ∧ τ 66 = oc oo ∧ Q (.inl (some (.int 0))) (va_up τ 66 (oc (va_up oo 0 (x.toInt64))))) (hx : ∀ E τ, Q2 (.inr E) τ → (E = "java/lang/IndexOutOfBoundsException" ∧ Q (.inl (some (.int 1))) τ)) : zz_C mL_classOf 8 mc ms [.ref 52, .int a0, .int a1, .ref 66] σ Q := by
  refine zz_startH wPL_classOf rfl rfl (Nat.le_of_ble_eq_true rfl) ?_
  refine zz_aload_n dL_classOf_0 rfl ?_
  refine zz_iconst (v := 0) dL_classOf_1 (by decide) ?_
  refine zz_aload_n dL_classOf_2 rfl ?_
  refine zz_iload_n dL_classOf_3 rfl ?_
  refine zz_iload_n dL_classOf_4 rfl ?_
  refine zz_callVX (ci := 4) hC dL_classOf_5 zw_m_L_96 wYX4_classOf wDX4_classOf rfl (by omega) h52 rfl (Nat.le_of_ble_eq_true rfl) (by decide) (Nat.le_refl _) (Nat.le_refl _) rfl (fun v9 τ9 h9 => ?_) (fun E9 τ9 h9 => ?_)
  · obtain ⟨x, oo, rfl, h66, hq⟩ := hv v9 τ9 h9
    refine zz_i2l dL_classOf_8 rfl ?_
    refine zz_last dL_classOf_9 (by omega) h66 (vp_in_nI (n := 0) (N := 1) (by omega) (by omega)) ?_
    refine zz_goto (tgt := 17) dL_classOf_10 (by decide) ?_
    refine zz_iconst (v := 0) dL_classOf_17 (by decide) ?_
    refine zz_iret dL_classOf_18 rfl ?_
    exact hq
  · obtain ⟨rfl, hq⟩ := hx E9 τ9 h9
    exact ⟨1, ⟨[], [], (0, 10, 13, 19), rfl, ⟨by decide, by decide⟩, by decide, zw_l_L_19, by simp [zz_exc], (fun z hz => nomatch hz), Or.inr ⟨4, 1, by decide, dL_classOf_13, dL_classOf_15, by decide, dL_classOf_16⟩⟩, hq⟩
set_option maxHeartbeats 1000000 in
set_option maxRecDepth 20000 in
theorem g_classes (h52 : σ 52 = .inr (4, fs)) (a0 : Int32) {mc ms : Nat} (hC : zz_C mX4_classes 7 mc ms [.ref 52, .int a0] σ Q2) (hv : ∀ v τ, Q2 (.inl v) τ → ∃ (x : Int32) (oo : Nat → Int64), v = some (.int x) ∧ τ 66 = oc oo ∧ Q (.inl (some (.int 0))) (va_up τ 66 (oc (va_up oo 0 (x.toInt64))))) (hx : ∀ E τ, Q2 (.inr E) τ → (E = "java/lang/IndexOutOfBoundsException" ∧ Q (.inl (some (.int 1))) τ)) : zz_C mL_classes 8 mc ms [.ref 52, .int a0, .ref 66] σ Q := by
  refine zz_startH wPL_classes rfl rfl (Nat.le_of_ble_eq_true rfl) ?_
  refine zz_aload_n dL_classes_0 rfl ?_
  refine zz_iconst (v := 0) dL_classes_1 (by decide) ?_
  refine zz_aload_n dL_classes_2 rfl ?_
  refine zz_iload_n dL_classes_3 rfl ?_
  refine zz_callVX (ci := 4) hC dL_classes_4 zw_m_L_99 wYX4_classes wDX4_classes rfl (by omega) h52 rfl (Nat.le_of_ble_eq_true rfl) (by decide) (Nat.le_refl _) (Nat.le_refl _) rfl (fun v9 τ9 h9 => ?_) (fun E9 τ9 h9 => ?_)
  · obtain ⟨x, oo, rfl, h66, hq⟩ := hv v9 τ9 h9
    refine zz_i2l dL_classes_7 rfl ?_
    refine zz_last dL_classes_8 (by omega) h66 (vp_in_nI (n := 0) (N := 1) (by omega) (by omega)) ?_
    refine zz_goto (tgt := 15) dL_classes_9 (by decide) ?_
    refine zz_iconst (v := 0) dL_classes_15 (by decide) ?_
    refine zz_iret dL_classes_16 rfl ?_
    exact hq
  · obtain ⟨rfl, hq⟩ := hx E9 τ9 h9
    exact ⟨1, ⟨[], [], (0, 9, 12, 19), rfl, ⟨by decide, by decide⟩, by decide, zw_l_L_19, by simp [zz_exc], (fun z hz => nomatch hz), Or.inl ⟨3, 1, by decide, dL_classes_12, dL_classes_13, by decide, dL_classes_14⟩⟩, hq⟩
set_option maxHeartbeats 1000000 in
set_option maxRecDepth 20000 in
theorem g_hasRing (h52 : σ 52 = .inr (4, fs)) (a0 : Int32) {mc ms : Nat} (hC : zz_C mX4_hasRing 7 mc ms [.ref 52, .int a0] σ Q2) (hv : ∀ v τ, Q2 (.inl v) τ → ∃ (x : Bool) (oo : Nat → Int64), v = some (.int (zB x)) ∧ τ 66 = oc oo ∧ Q (.inl (some (.int 0))) (va_up τ 66 (oc (va_up oo 0 (zL x))))) (hx : ∀ E τ, Q2 (.inr E) τ → (E = "java/lang/IndexOutOfBoundsException" ∧ Q (.inl (some (.int 1))) τ)) : zz_C mL_hasRing 8 mc ms [.ref 52, .int a0, .ref 66] σ Q := by
  refine zz_startH wPL_hasRing rfl rfl (Nat.le_of_ble_eq_true rfl) ?_
  refine zz_aload_n dL_hasRing_0 rfl ?_
  refine zz_iconst (v := 0) dL_hasRing_1 (by decide) ?_
  refine zz_aload_n dL_hasRing_2 rfl ?_
  refine zz_iload_n dL_hasRing_3 rfl ?_
  refine zz_callVX (ci := 4) hC dL_hasRing_4 zw_m_L_102 wYX4_hasRing wDX4_hasRing rfl (by omega) h52 rfl (Nat.le_of_ble_eq_true rfl) (by decide) (Nat.le_refl _) (Nat.le_refl _) rfl (fun v9 τ9 h9 => ?_) (fun E9 τ9 h9 => ?_)
  · obtain ⟨x, oo, rfl, h66, hq⟩ := hv v9 τ9 h9
    refine zz_nzL dL_hasRing_7 dL_hasRing_10 dL_hasRing_11 dL_hasRing_14 ?_
    refine zz_last dL_hasRing_15 (by omega) h66 (vp_in_nI (n := 0) (N := 1) (by omega) (by omega)) ?_
    refine zz_goto (tgt := 22) dL_hasRing_16 (by decide) ?_
    refine zz_iconst (v := 0) dL_hasRing_22 (by decide) ?_
    refine zz_iret dL_hasRing_23 rfl ?_
    exact hq
  · obtain ⟨rfl, hq⟩ := hx E9 τ9 h9
    exact ⟨1, ⟨[], [], (0, 16, 19, 19), rfl, ⟨by decide, by decide⟩, by decide, zw_l_L_19, by simp [zz_exc], (fun z hz => nomatch hz), Or.inl ⟨3, 1, by decide, dL_hasRing_19, dL_hasRing_20, by decide, dL_hasRing_21⟩⟩, hq⟩
set_option maxHeartbeats 1000000 in
set_option maxRecDepth 20000 in
theorem g_orderAt (h52 : σ 52 = .inr (4, fs)) (a0 : Int32) (a1 : Int32) {mc ms : Nat} (hC : zz_C mX4_orderAt 7 mc ms [.ref 52, .int a0, .int a1] σ Q2) (hv : ∀ v τ, Q2 (.inl v) τ → ∃ (x : Int32) (oo : Nat → Int64), v = some (.int x) ∧ τ 66 = oc oo ∧ Q (.inl (some (.int 0))) (va_up τ 66 (oc (va_up oo 0 (x.toInt64))))) (hx : ∀ E τ, Q2 (.inr E) τ → (E = "java/lang/IndexOutOfBoundsException" ∧ Q (.inl (some (.int 1))) τ) ∨ (E = "java/lang/IllegalStateException" ∧ Q (.inl (some (.int 2))) τ)) : zz_C mL_orderAt 8 mc ms [.ref 52, .int a0, .int a1, .ref 66] σ Q := by
  refine zz_startH wPL_orderAt rfl rfl (Nat.le_of_ble_eq_true rfl) ?_
  refine zz_aload_n dL_orderAt_0 rfl ?_
  refine zz_iconst (v := 0) dL_orderAt_1 (by decide) ?_
  refine zz_aload_n dL_orderAt_2 rfl ?_
  refine zz_iload_n dL_orderAt_3 rfl ?_
  refine zz_iload_n dL_orderAt_4 rfl ?_
  refine zz_callVX (ci := 4) hC dL_orderAt_5 zw_m_L_106 wYX4_orderAt wDX4_orderAt rfl (by omega) h52 rfl (Nat.le_of_ble_eq_true rfl) (by decide) (Nat.le_refl _) (Nat.le_refl _) rfl (fun v9 τ9 h9 => ?_) (fun E9 τ9 h9 => ?_)
  · obtain ⟨x, oo, rfl, h66, hq⟩ := hv v9 τ9 h9
    refine zz_i2l dL_orderAt_8 rfl ?_
    refine zz_last dL_orderAt_9 (by omega) h66 (vp_in_nI (n := 0) (N := 1) (by omega) (by omega)) ?_
    refine zz_goto (tgt := 21) dL_orderAt_10 (by decide) ?_
    refine zz_iconst (v := 0) dL_orderAt_21 (by decide) ?_
    refine zz_iret dL_orderAt_22 rfl ?_
    exact hq
  · rcases hx E9 τ9 h9 with ⟨rfl, hq⟩ | ⟨rfl, hq⟩
    · exact ⟨1, ⟨[], [(0, 10, 17, 63)], (0, 10, 13, 19), rfl, ⟨by decide, by decide⟩, by decide, zw_l_L_19, by simp [zz_exc], (fun z hz => nomatch hz), Or.inr ⟨4, 1, by decide, dL_orderAt_13, dL_orderAt_15, by decide, dL_orderAt_16⟩⟩, hq⟩
    · exact ⟨2, ⟨[(0, 10, 13, 19)], [], (0, 10, 17, 63), rfl, ⟨by decide, by decide⟩, by decide, zw_l_L_63, by simp [zz_exc], (fun z hz => by rcases List.mem_singleton.mp hz with rfl; exact ⟨by decide, _, zw_l_L_19, by simp [zz_nc]⟩), Or.inr ⟨4, 2, by decide, dL_orderAt_17, dL_orderAt_19, by decide, dL_orderAt_20⟩⟩, hq⟩
set_option maxHeartbeats 1000000 in
set_option maxRecDepth 20000 in
theorem g_longestWalk (h52 : σ 52 = .inr (4, fs)) (a0 : Int32) {mc ms : Nat} (hC : zz_C mX4_longestWalk 7 mc ms [.ref 52, .int a0] σ Q2) (hv : ∀ v τ, Q2 (.inl v) τ → ∃ (x : Int32) (oo : Nat → Int64), v = some (.int x) ∧ τ 66 = oc oo ∧ Q (.inl (some (.int 0))) (va_up τ 66 (oc (va_up oo 0 (x.toInt64))))) (hx : ∀ E τ, Q2 (.inr E) τ → (E = "java/lang/IndexOutOfBoundsException" ∧ Q (.inl (some (.int 1))) τ) ∨ (E = "java/lang/IllegalStateException" ∧ Q (.inl (some (.int 2))) τ)) : zz_C mL_longestWalk 8 mc ms [.ref 52, .int a0, .ref 66] σ Q := by
  refine zz_startH wPL_longestWalk rfl rfl (Nat.le_of_ble_eq_true rfl) ?_
  refine zz_aload_n dL_longestWalk_0 rfl ?_
  refine zz_iconst (v := 0) dL_longestWalk_1 (by decide) ?_
  refine zz_aload_n dL_longestWalk_2 rfl ?_
  refine zz_iload_n dL_longestWalk_3 rfl ?_
  refine zz_callVX (ci := 4) hC dL_longestWalk_4 zw_m_L_109 wYX4_longestWalk wDX4_longestWalk rfl (by omega) h52 rfl (Nat.le_of_ble_eq_true rfl) (by decide) (Nat.le_refl _) (Nat.le_refl _) rfl (fun v9 τ9 h9 => ?_) (fun E9 τ9 h9 => ?_)
  · obtain ⟨x, oo, rfl, h66, hq⟩ := hv v9 τ9 h9
    refine zz_i2l dL_longestWalk_7 rfl ?_
    refine zz_last dL_longestWalk_8 (by omega) h66 (vp_in_nI (n := 0) (N := 1) (by omega) (by omega)) ?_
    refine zz_goto (tgt := 18) dL_longestWalk_9 (by decide) ?_
    refine zz_iconst (v := 0) dL_longestWalk_18 (by decide) ?_
    refine zz_iret dL_longestWalk_19 rfl ?_
    exact hq
  · rcases hx E9 τ9 h9 with ⟨rfl, hq⟩ | ⟨rfl, hq⟩
    · exact ⟨1, ⟨[], [(0, 9, 15, 63)], (0, 9, 12, 19), rfl, ⟨by decide, by decide⟩, by decide, zw_l_L_19, by simp [zz_exc], (fun z hz => nomatch hz), Or.inl ⟨3, 1, by decide, dL_longestWalk_12, dL_longestWalk_13, by decide, dL_longestWalk_14⟩⟩, hq⟩
    · exact ⟨2, ⟨[(0, 9, 12, 19)], [], (0, 9, 15, 63), rfl, ⟨by decide, by decide⟩, by decide, zw_l_L_63, by simp [zz_exc], (fun z hz => by rcases List.mem_singleton.mp hz with rfl; exact ⟨by decide, _, zw_l_L_19, by simp [zz_nc]⟩), Or.inl ⟨3, 2, by decide, dL_longestWalk_15, dL_longestWalk_16, by decide, dL_longestWalk_17⟩⟩, hq⟩
set_option maxHeartbeats 1000000 in
set_option maxRecDepth 20000 in
theorem g_mark (h52 : σ 52 = .inr (4, fs)) (a0 : Int32) (a1 : Int32) (a2 : Int32) {mc ms : Nat} (hC : zz_C mX4_mark 7 mc ms [.ref 52, .int a0, .int a1, .int a2] σ Q2) (hv : ∀ v τ, Q2 (.inl v) τ → ∃ (x : Int32) (oo : Nat → Int64), v = some (.int x) ∧ τ 66 = oc oo ∧ Q (.inl (some (.int 0))) (va_up τ 66 (oc (va_up oo 0 (x.toInt64))))) (hx : ∀ E τ, Q2 (.inr E) τ → (E = "java/lang/IndexOutOfBoundsException" ∧ Q (.inl (some (.int 1))) τ)) : zz_C mL_mark 8 mc ms [.ref 52, .int a0, .int a1, .int a2, .ref 66] σ Q := by
  refine zz_startH wPL_mark rfl rfl (Nat.le_of_ble_eq_true rfl) ?_
  refine zz_aload dL_mark_0 rfl ?_
  refine zz_iconst (v := 0) dL_mark_2 (by decide) ?_
  refine zz_aload_n dL_mark_3 rfl ?_
  refine zz_iload_n dL_mark_4 rfl ?_
  refine zz_iload_n dL_mark_5 rfl ?_
  refine zz_iload_n dL_mark_6 rfl ?_
  refine zz_callVX (ci := 4) hC dL_mark_7 zw_m_L_112 wYX4_mark wDX4_mark rfl (by omega) h52 rfl (Nat.le_of_ble_eq_true rfl) (by decide) (Nat.le_refl _) (Nat.le_refl _) rfl (fun v9 τ9 h9 => ?_) (fun E9 τ9 h9 => ?_)
  · obtain ⟨x, oo, rfl, h66, hq⟩ := hv v9 τ9 h9
    refine zz_i2l dL_mark_10 rfl ?_
    refine zz_last dL_mark_11 (by omega) h66 (vp_in_nI (n := 0) (N := 1) (by omega) (by omega)) ?_
    refine zz_goto (tgt := 19) dL_mark_12 (by decide) ?_
    refine zz_iconst (v := 0) dL_mark_19 (by decide) ?_
    refine zz_iret dL_mark_20 rfl ?_
    exact hq
  · obtain ⟨rfl, hq⟩ := hx E9 τ9 h9
    exact ⟨1, ⟨[], [], (0, 12, 15, 19), rfl, ⟨by decide, by decide⟩, by decide, zw_l_L_19, by simp [zz_exc], (fun z hz => nomatch hz), Or.inr ⟨5, 1, by decide, dL_mark_15, dL_mark_17, by decide, dL_mark_18⟩⟩, hq⟩
set_option maxHeartbeats 1000000 in
set_option maxRecDepth 20000 in
theorem g_spread (h52 : σ 52 = .inr (4, fs)) (a0 : Int32) (a1 : Int32) {mc ms : Nat} (hC : zz_C mX4_spread 7 mc ms [.ref 52, .int a0, .int a1] σ Q2) (hv : ∀ v τ, Q2 (.inl v) τ → ∃ (x : Int32) (oo : Nat → Int64), v = some (.int x) ∧ τ 66 = oc oo ∧ Q (.inl (some (.int 0))) (va_up τ 66 (oc (va_up oo 0 (x.toInt64))))) (hx : ∀ E τ, Q2 (.inr E) τ → (E = "java/lang/IndexOutOfBoundsException" ∧ Q (.inl (some (.int 1))) τ)) : zz_C mL_spread 8 mc ms [.ref 52, .int a0, .int a1, .ref 66] σ Q := by
  refine zz_startH wPL_spread rfl rfl (Nat.le_of_ble_eq_true rfl) ?_
  refine zz_aload_n dL_spread_0 rfl ?_
  refine zz_iconst (v := 0) dL_spread_1 (by decide) ?_
  refine zz_aload_n dL_spread_2 rfl ?_
  refine zz_iload_n dL_spread_3 rfl ?_
  refine zz_iload_n dL_spread_4 rfl ?_
  refine zz_callVX (ci := 4) hC dL_spread_5 zw_m_L_116 wYX4_spread wDX4_spread rfl (by omega) h52 rfl (Nat.le_of_ble_eq_true rfl) (by decide) (Nat.le_refl _) (Nat.le_refl _) rfl (fun v9 τ9 h9 => ?_) (fun E9 τ9 h9 => ?_)
  · obtain ⟨x, oo, rfl, h66, hq⟩ := hv v9 τ9 h9
    refine zz_i2l dL_spread_8 rfl ?_
    refine zz_last dL_spread_9 (by omega) h66 (vp_in_nI (n := 0) (N := 1) (by omega) (by omega)) ?_
    refine zz_goto (tgt := 17) dL_spread_10 (by decide) ?_
    refine zz_iconst (v := 0) dL_spread_17 (by decide) ?_
    refine zz_iret dL_spread_18 rfl ?_
    exact hq
  · obtain ⟨rfl, hq⟩ := hx E9 τ9 h9
    exact ⟨1, ⟨[], [], (0, 10, 13, 19), rfl, ⟨by decide, by decide⟩, by decide, zw_l_L_19, by simp [zz_exc], (fun z hz => nomatch hz), Or.inr ⟨4, 1, by decide, dL_spread_13, dL_spread_15, by decide, dL_spread_16⟩⟩, hq⟩
set_option maxHeartbeats 1000000 in
set_option maxRecDepth 20000 in
theorem g_markedAt (h52 : σ 52 = .inr (4, fs)) (a0 : Int32) {mc ms : Nat} (hC : zz_C mX4_markedAt 7 mc ms [.ref 52, .int a0] σ Q2) (hv : ∀ v τ, Q2 (.inl v) τ → ∃ (x : Int32) (oo : Nat → Int64), v = some (.int x) ∧ τ 66 = oc oo ∧ Q (.inl (some (.int 0))) (va_up τ 66 (oc (va_up oo 0 (x.toInt64))))) (hx : ∀ E τ, Q2 (.inr E) τ → (E = "java/util/NoSuchElementException" ∧ Q (.inl (some (.int 1))) τ)) : zz_C mL_markedAt 8 mc ms [.ref 52, .int a0, .ref 66] σ Q := by
  refine zz_startH wPL_markedAt rfl rfl (Nat.le_of_ble_eq_true rfl) ?_
  refine zz_aload_n dL_markedAt_0 rfl ?_
  refine zz_iconst (v := 0) dL_markedAt_1 (by decide) ?_
  refine zz_aload_n dL_markedAt_2 rfl ?_
  refine zz_iload_n dL_markedAt_3 rfl ?_
  refine zz_callVX (ci := 4) hC dL_markedAt_4 zw_m_L_119 wYX4_markedAt wDX4_markedAt rfl (by omega) h52 rfl (Nat.le_of_ble_eq_true rfl) (by decide) (Nat.le_refl _) (Nat.le_refl _) rfl (fun v9 τ9 h9 => ?_) (fun E9 τ9 h9 => ?_)
  · obtain ⟨x, oo, rfl, h66, hq⟩ := hv v9 τ9 h9
    refine zz_i2l dL_markedAt_7 rfl ?_
    refine zz_last dL_markedAt_8 (by omega) h66 (vp_in_nI (n := 0) (N := 1) (by omega) (by omega)) ?_
    refine zz_goto (tgt := 15) dL_markedAt_9 (by decide) ?_
    refine zz_iconst (v := 0) dL_markedAt_15 (by decide) ?_
    refine zz_iret dL_markedAt_16 rfl ?_
    exact hq
  · obtain ⟨rfl, hq⟩ := hx E9 τ9 h9
    exact ⟨1, ⟨[], [], (0, 9, 12, 122), rfl, ⟨by decide, by decide⟩, by decide, zw_l_L_122, by simp [zz_exc], (fun z hz => nomatch hz), Or.inl ⟨3, 1, by decide, dL_markedAt_12, dL_markedAt_13, by decide, dL_markedAt_14⟩⟩, hq⟩
set_option maxHeartbeats 1000000 in
set_option maxRecDepth 20000 in
theorem g_meanRow (h52 : σ 52 = .inr (4, fs)) (a0 : Int32) {mc ms : Nat} (hC : zz_C mX4_meanRow 7 mc ms [.ref 52, .int a0] σ Q2) (hv : ∀ v τ, Q2 (.inl v) τ → ∃ (x : UInt64) (oo : Nat → UInt64), v = some (.double x) ∧ τ 67 = od oo ∧ Q (.inl (some (.int 0))) (va_up τ 67 (od (va_up oo 0 (x))))) (hx : ∀ E τ, Q2 (.inr E) τ → (E = "java/lang/IndexOutOfBoundsException" ∧ Q (.inl (some (.int 1))) τ)) : zz_C mL_meanRow 8 mc ms [.ref 52, .int a0, .ref 67] σ Q := by
  refine zz_startH wPL_meanRow rfl rfl (Nat.le_of_ble_eq_true rfl) ?_
  refine zz_aload_n dL_meanRow_0 rfl ?_
  refine zz_iconst (v := 0) dL_meanRow_1 (by decide) ?_
  refine zz_aload_n dL_meanRow_2 rfl ?_
  refine zz_iload_n dL_meanRow_3 rfl ?_
  refine zz_callVX (ci := 4) hC dL_meanRow_4 zw_m_L_124 wYX4_meanRow wDX4_meanRow rfl (by omega) h52 rfl (Nat.le_of_ble_eq_true rfl) (by decide) (Nat.le_refl _) (Nat.le_refl _) rfl (fun v9 τ9 h9 => ?_) (fun E9 τ9 h9 => ?_)
  · obtain ⟨x, oo, rfl, h66, hq⟩ := hv v9 τ9 h9
    refine zz_dast dL_meanRow_7 (by omega) h66 (vp_in_nI (n := 0) (N := 1) (by omega) (by omega)) ?_
    refine zz_goto (tgt := 14) dL_meanRow_8 (by decide) ?_
    refine zz_iconst (v := 0) dL_meanRow_14 (by decide) ?_
    refine zz_iret dL_meanRow_15 rfl ?_
    exact hq
  · obtain ⟨rfl, hq⟩ := hx E9 τ9 h9
    exact ⟨1, ⟨[], [], (0, 8, 11, 19), rfl, ⟨by decide, by decide⟩, by decide, zw_l_L_19, by simp [zz_exc], (fun z hz => nomatch hz), Or.inl ⟨3, 1, by decide, dL_meanRow_11, dL_meanRow_12, by decide, dL_meanRow_13⟩⟩, hq⟩
set_option maxHeartbeats 1000000 in
set_option maxRecDepth 20000 in
theorem g_share (h52 : σ 52 = .inr (4, fs)) (a0 : Int32) {mc ms : Nat} (hC : zz_C mX4_share 7 mc ms [.ref 52, .int a0] σ Q2) (hv : ∀ v τ, Q2 (.inl v) τ → ∃ (x : UInt32) (oo : Nat → UInt64), v = some (.float x) ∧ vf_n64 (FP.f2d x) ∧ τ 67 = od oo ∧ Q (.inl (some (.int 0))) (va_up τ 67 (od (va_up oo 0 (FP.f2d x))))) (hx : ∀ E τ, Q2 (.inr E) τ → (E = "java/lang/IndexOutOfBoundsException" ∧ Q (.inl (some (.int 1))) τ)) : zz_C mL_share 8 mc ms [.ref 52, .int a0, .ref 67] σ Q := by
  refine zz_startH wPL_share rfl rfl (Nat.le_of_ble_eq_true rfl) ?_
  refine zz_aload_n dL_share_0 rfl ?_
  refine zz_iconst (v := 0) dL_share_1 (by decide) ?_
  refine zz_aload_n dL_share_2 rfl ?_
  refine zz_iload_n dL_share_3 rfl ?_
  refine zz_callVX (ci := 4) hC dL_share_4 zw_m_L_128 wYX4_share wDX4_share rfl (by omega) h52 rfl (Nat.le_of_ble_eq_true rfl) (by decide) (Nat.le_refl _) (Nat.le_refl _) rfl (fun v9 τ9 h9 => ?_) (fun E9 τ9 h9 => ?_)
  · obtain ⟨x, oo, rfl, hnan, h66, hq⟩ := hv v9 τ9 h9
    refine zz_f2d dL_share_7 hnan ?_
    refine zz_dast dL_share_8 (by omega) h66 (vp_in_nI (n := 0) (N := 1) (by omega) (by omega)) ?_
    refine zz_goto (tgt := 15) dL_share_9 (by decide) ?_
    refine zz_iconst (v := 0) dL_share_15 (by decide) ?_
    refine zz_iret dL_share_16 rfl ?_
    exact hq
  · obtain ⟨rfl, hq⟩ := hx E9 τ9 h9
    exact ⟨1, ⟨[], [], (0, 9, 12, 19), rfl, ⟨by decide, by decide⟩, by decide, zw_l_L_19, by simp [zz_exc], (fun z hz => nomatch hz), Or.inl ⟨3, 1, by decide, dL_share_12, dL_share_13, by decide, dL_share_14⟩⟩, hq⟩
end ZZHL
