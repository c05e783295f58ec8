section ZZ3
variable {El : Nat → Int32} {Lo Hi : Nat → Nat → Int64} {BL BH : Nat → Int64} {Od : Nat → Nat → Int32} {Ls : Nat → Int32} {nn : Int32} {T : zz_St}
set_option maxHeartbeats 1000000 in
set_option maxRecDepth 20000 in
theorem l_rinvert {r : Nat} (hr : r < 8) {n : Nat} (hE : El r = nI n) (hn : n ≤ 80) : ∀ (m i : Nat), i + m = n → ∀ (B C : Nat → Int64), frm (24 + r) BL B → frm (24 + r) BH C → zz_E mX1_invert none 3 0 0 (fun o τ => o = .inl none ∧ ∃ B C, frm (24 + r) BL B ∧ frm (24 + r) BH C ∧ τ = px El (va_up Lo r (cpy n (fun k => Lo r k ^^^ lwR 0 (El r)) (Lo r))) (va_up Hi r (cpy n (fun k => Hi r k ^^^ hgR 0 (El r)) (Hi r))) B C Od Ls nn T) 2 [(1, .int (nI i)), (0, .ref r)] [] (px El (va_up Lo r (cpy i (fun k => Lo r k ^^^ lwR 0 (El r)) (Lo r))) (va_up Hi r (cpy i (fun k => Hi r k ^^^ hgR 0 (El r)) (Hi r))) B C Od Ls nn T) := by
  intro m
  induction m with
  | zero =>
    intro i hi B C hB hC
    have hi : i = n := by omega
    subst hi
    refine zz_iload_n dX1_invert_2 rfl ?_
    refine zz_aload_n dX1_invert_3 rfl ?_
    refine zg_el zw_f_X1_9 dX1_invert_4 (by omega) ?_
    refine zz_icmp_ge (tgt := 46) dX1_invert_7 (by decide) (fun _ => ?_) (fun h => absurd (by rw [hE]; exact nI_le (by omega) (by omega)) h)
    refine zz_vret dX1_invert_46 rfl ?_
    exact ⟨rfl, B, C, hB, hC, rfl⟩
  | succ m ih =>
    intro i hi B C hB hC
    refine zz_iload_n dX1_invert_2 rfl ?_
    refine zz_aload_n dX1_invert_3 rfl ?_
    refine zg_el zw_f_X1_9 dX1_invert_4 (by omega) ?_
    refine zz_icmp_ge (tgt := 46) dX1_invert_7 (by decide) (fun h => absurd h (by rw [hE]; exact nI_ge (by omega) (by omega))) (fun _ => ?_)
    refine zz_aload_n dX1_invert_10 rfl ?_
    refine zz_iload_n dX1_invert_11 rfl ?_
    refine zz_aload_n dX1_invert_12 rfl ?_
    refine zg_rw zw_f_X1_25 dX1_invert_13 (by omega) ?_
    refine zz_callV0 (ci := 1) (c_rowInto hr (by omega) (by omega)) dX1_invert_16 zw_m_X1_83 wYX1_rowInto wDX1_rowInto rfl (by omega) (px_rel (by omega)) rfl (Nat.le_of_ble_eq_true rfl) (by decide) rfl ?_
    refine zz_aload_n dX1_invert_19 rfl ?_
    refine zg_rw zw_f_X1_25 dX1_invert_20 (by omega) ?_
    refine zz_iconst (v := 0) dX1_invert_23 (by decide) ?_
    refine zz_aload_n dX1_invert_24 rfl ?_
    refine zg_el zw_f_X1_9 dX1_invert_25 (by omega) ?_
    refine zz_callV0 (ci := 0) (c_invert (by omega) 0 (El r)) dX1_invert_28 zw_m_X1_93 wYX0_invert wDX0_invert rfl (by omega) (px_bit (by omega)) rfl (Nat.le_of_ble_eq_true rfl) (by decide) rfl ?_
    refine zz_aload_n dX1_invert_31 rfl ?_
    refine zz_iload_n dX1_invert_32 rfl ?_
    refine zz_aload_n dX1_invert_33 rfl ?_
    refine zg_rw zw_f_X1_25 dX1_invert_34 (by omega) ?_
    refine zz_callV0 (ci := 1) (c_putRow hr (by omega) (by omega)) dX1_invert_37 zw_m_X1_32 wYX1_putRow wDX1_putRow rfl (by omega) (px_rel (by omega)) rfl (Nat.le_of_ble_eq_true rfl) (by decide) rfl ?_
    refine zz_iinc (v := nI (i + 1)) dX1_invert_40 rfl (nI_1 i) (by decide) ?_
    refine zz_goto (tgt := 2) dX1_invert_43 (by decide) ?_
    have h9 := fun X Y => ih (i + 1) (by omega) (va_up B (24 + r) X) (va_up C (24 + r) Y) (frm_u hB X) (frm_u hC Y)
    rw [← cpy_s, ← cpy_s] at h9
    simp only [up_at, up_up, cpy_i]
    exact h9 _ _
set_option maxHeartbeats 1000000 in
set_option maxRecDepth 20000 in
theorem c_rinvert {r : Nat} (hr : r < 8) {n : Nat} (hE : El r = nI n) (hn : n ≤ 80) : zz_C mX1_invert 3 0 0 [.ref r] (px El Lo Hi BL BH Od Ls nn T) (fun o τ => o = .inl none ∧ ∃ B C, frm (24 + r) BL B ∧ frm (24 + r) BH C ∧ τ = px El (va_up Lo r (cpy n (fun k => Lo r k ^^^ lwR 0 (El r)) (Lo r))) (va_up Hi r (cpy n (fun k => Hi r k ^^^ hgR 0 (El r)) (Hi r))) B C Od Ls nn T) := by
  refine zz_start wPX1_invert rfl rfl (Nat.le_of_ble_eq_true rfl) ?_
  refine zz_iconst (v := 0) dX1_invert_0 (by decide) ?_
  refine zz_istore_n dX1_invert_1 (by decide) ?_
  have h9 := l_rinvert (Lo := Lo) (Hi := Hi) (BL := BL) (BH := BH) (Od := Od) (Ls := Ls) (nn := nn) (T := T) hr hE hn n 0 (by omega) BL BH (frm_r _ _) (frm_r _ _)
  rw [cpy_0, cpy_0, up_self, up_self] at h9
  exact h9
set_option maxHeartbeats 1000000 in
set_option maxRecDepth 20000 in
theorem l_product {r : Nat} (hr : r < 8) {n : Nat} (hE : El r = nI n) (hn : n ≤ 80) {a : Nat} (ha : a < 8) {b : Nat} (hb : b < 8) (har : a ≠ r) (hbr : b ≠ r) (hEb : El b = nI n) (hcl : cln (Lo a) (Hi a) n) : ∀ (m i : Nat), i + m = n → ∀ (B C : Nat → Int64), frm (24 + r) BL B → frm (24 + r) BH C → zz_E mX1_product none 4 0 0 (fun o τ => o = .inl none ∧ ∃ B C, frm (24 + r) BL B ∧ frm (24 + r) BH C ∧ τ = px El (va_up Lo r (cpy n (fun k => ig (Lo b) (Lo a k) (Hi a k)) (Lo r))) (va_up Hi r (cpy n (fun k => ig (Hi b) (Lo a k) (Hi a k)) (Hi r))) B C Od Ls nn T) 10 [(3, .int (nI i)), (0, .ref r), (1, .ref a), (2, .ref b)] [] (px El (va_up Lo r (cpy i (fun k => ig (Lo b) (Lo a k) (Hi a k)) (Lo r))) (va_up Hi r (cpy i (fun k => ig (Hi b) (Lo a k) (Hi a k)) (Hi r))) B C Od Ls nn T) := by
  intro m
  induction m with
  | zero =>
    intro i hi B C hB hC
    have hi : i = n := by omega
    subst hi
    refine zz_iload_n dX1_product_10 rfl ?_
    refine zz_aload_n dX1_product_11 rfl ?_
    refine zg_el zw_f_X1_9 dX1_product_12 (by omega) ?_
    refine zz_icmp_ge (tgt := 54) dX1_product_15 (by decide) (fun _ => ?_) (fun h => absurd (by rw [hE]; exact nI_le (by omega) (by omega)) h)
    refine zz_vret dX1_product_54 rfl ?_
    exact ⟨rfl, B, C, hB, hC, rfl⟩
  | succ m ih =>
    intro i hi B C hB hC
    refine zz_iload_n dX1_product_10 rfl ?_
    refine zz_aload_n dX1_product_11 rfl ?_
    refine zg_el zw_f_X1_9 dX1_product_12 (by omega) ?_
    refine zz_icmp_ge (tgt := 54) dX1_product_15 (by decide) (fun h => absurd h (by rw [hE]; exact nI_ge (by omega) (by omega))) (fun _ => ?_)
    refine zz_aload_n dX1_product_18 rfl ?_
    refine zz_iload_n dX1_product_19 rfl ?_
    refine zz_aload_n dX1_product_20 rfl ?_
    refine zg_rw zw_f_X1_25 dX1_product_21 (by omega) ?_
    refine zz_callV0 (ci := 1) (c_rowInto ha (by omega) (by omega)) dX1_product_24 zw_m_X1_83 wYX1_rowInto wDX1_rowInto rfl (by omega) (px_rel (by omega)) rfl (Nat.le_of_ble_eq_true rfl) (by decide) rfl ?_
    refine zz_aload_n dX1_product_27 rfl ?_
    refine zz_aload_n dX1_product_28 rfl ?_
    refine zg_rw zw_f_X1_25 dX1_product_29 (by omega) ?_
    refine zz_aload_n dX1_product_32 rfl ?_
    refine zg_rw zw_f_X1_25 dX1_product_33 (by omega) ?_
    refine zz_callV0 (ci := 1) (c_imageOf hb hEb hn (p := 24 + r) (by omega) (q := 24 + r) (by omega) (by rw [up_at, up_at, up_ne _ _ har, up_ne _ _ har]; exact hcl i (by omega))) dX1_product_36 zw_m_X1_86 wYX1_imageOf wDX1_imageOf rfl (by omega) (px_rel (by omega)) rfl (Nat.le_of_ble_eq_true rfl) (by decide) rfl ?_
    refine zz_aload_n dX1_product_39 rfl ?_
    refine zz_iload_n dX1_product_40 rfl ?_
    refine zz_aload_n dX1_product_41 rfl ?_
    refine zg_rw zw_f_X1_25 dX1_product_42 (by omega) ?_
    refine zz_callV0 (ci := 1) (c_putRow hr (by omega) (by omega)) dX1_product_45 zw_m_X1_32 wYX1_putRow wDX1_putRow rfl (by omega) (px_rel (by omega)) rfl (Nat.le_of_ble_eq_true rfl) (by decide) rfl ?_
    refine zz_iinc (v := nI (i + 1)) dX1_product_48 rfl (nI_1 i) (by decide) ?_
    refine zz_goto (tgt := 10) dX1_product_51 (by decide) ?_
    have h9 := fun X Y => ih (i + 1) (by omega) (va_up B (24 + r) X) (va_up C (24 + r) Y) (frm_u hB X) (frm_u hC Y)
    rw [← cpy_s, ← cpy_s] at h9
    simp only [up_at, up_up, up_ne _ _ har, up_ne _ _ hbr, cpy_i]
    exact h9 _ _
set_option maxHeartbeats 1000000 in
set_option maxRecDepth 20000 in
theorem c_product {r : Nat} (hr : r < 8) {a : Nat} (ha : a < 8) {b : Nat} (hb : b < 8) (har : a ≠ r) (hbr : b ≠ r) {n : Nat} (hn : n ≤ 80) (hEa : El a = nI n) (hEb : El b = nI n) (hcl : cln (Lo a) (Hi a) n) : zz_C mX1_product 4 0 0 [.ref r, .ref a, .ref b] (px El Lo Hi BL BH Od Ls nn T) (fun o τ => o = .inl none ∧ ∃ B C, frm (24 + r) BL B ∧ frm (24 + r) BH C ∧ τ = px (va_up El r (El a)) (va_up Lo r (cpy n (fun k => ig (Lo b) (Lo a k) (Hi a k)) (Lo r))) (va_up Hi r (cpy n (fun k => ig (Hi b) (Lo a k) (Hi a k)) (Hi r))) B C Od Ls nn T) := by
  refine zz_start wPX1_product rfl rfl (Nat.le_of_ble_eq_true rfl) ?_
  refine zz_aload_n dX1_product_0 rfl ?_
  refine zz_aload_n dX1_product_1 rfl ?_
  refine zg_el zw_f_X1_9 dX1_product_2 (by omega) ?_
  refine zp_el zw_f_X1_9 dX1_product_5 (by omega) ?_
  refine zz_iconst (v := 0) dX1_product_8 (by decide) ?_
  refine zz_istore_n dX1_product_9 (by decide) ?_
  have h9 := l_product (El := va_up El r (El a)) (Lo := Lo) (Hi := Hi) (BL := BL) (BH := BH) (Od := Od) (Ls := Ls) (nn := nn) (T := T) hr (n := n) (by rw [up_at]; exact hEa) hn ha hb har hbr (by rw [up_ne _ _ hbr]; exact hEb) hcl n 0 (by omega) BL BH (frm_r _ _) (frm_r _ _)
  rw [cpy_0, cpy_0, up_self, up_self] at h9
  exact h9
set_option maxHeartbeats 1000000 in
set_option maxRecDepth 20000 in
theorem l_takeCovers {r : Nat} (hr : r < 8) {n : Nat} (hE : El r = nI n) (hn : n ≤ 80) {c : Nat} (hc : c < 8) (hcr : c ≠ r) (hEc : El c = nI n) (hcl : cln (Lo c) (Hi c) n) : ∀ (m i : Nat), i + m = n → ∀ (B C : Nat → Int64), frm (24 + r) BL B → frm (24 + r) BH C → zz_E mX1_takeCovers none 4 0 0 (fun o τ => o = .inl none ∧ ∃ B C, frm (24 + r) BL B ∧ frm (24 + r) BH C ∧ τ = px El (va_up Lo r (cpy n (fun k => Lo c k &&& (ig (Lo c) (Lo c k) (Hi c k) ^^^ -1)) (Lo r))) (va_up Hi r (cpy n (fun k => Hi c k &&& (ig (Hi c) (Lo c k) (Hi c k) ^^^ -1)) (Hi r))) B C Od Ls nn T) 10 [(2, .int (nI i)), (0, .ref r), (1, .ref c)] [] (px El (va_up Lo r (cpy i (fun k => Lo c k &&& (ig (Lo c) (Lo c k) (Hi c k) ^^^ -1)) (Lo r))) (va_up Hi r (cpy i (fun k => Hi c k &&& (ig (Hi c) (Lo c k) (Hi c k) ^^^ -1)) (Hi r))) B C Od Ls nn T) := by
  intro m
  induction m with
  | zero =>
    intro i hi B C hB hC
    have hi : i = n := by omega
    subst hi
    refine zz_iload_n dX1_takeCovers_10 rfl ?_
    refine zz_aload_n dX1_takeCovers_11 rfl ?_
    refine zg_el zw_f_X1_9 dX1_takeCovers_12 (by omega) ?_
    refine zz_icmp_ge (tgt := 84) dX1_takeCovers_15 (by decide) (fun _ => ?_) (fun h => absurd (by rw [hE]; exact nI_le (by omega) (by omega)) h)
    refine zz_vret dX1_takeCovers_84 rfl ?_
    exact ⟨rfl, B, C, hB, hC, rfl⟩
  | succ m ih =>
    intro i hi B C hB hC
    refine zz_iload_n dX1_takeCovers_10 rfl ?_
    refine zz_aload_n dX1_takeCovers_11 rfl ?_
    refine zg_el zw_f_X1_9 dX1_takeCovers_12 (by omega) ?_
    refine zz_icmp_ge (tgt := 84) dX1_takeCovers_15 (by decide) (fun h => absurd h (by rw [hE]; exact nI_ge (by omega) (by omega))) (fun _ => ?_)
    refine zz_aload_n dX1_takeCovers_18 rfl ?_
    refine zz_iload_n dX1_takeCovers_19 rfl ?_
    refine zz_aload_n dX1_takeCovers_20 rfl ?_
    refine zg_rw zw_f_X1_25 dX1_takeCovers_21 (by omega) ?_
    refine zz_callV0 (ci := 1) (c_rowInto hc (by omega) (by omega)) dX1_takeCovers_24 zw_m_X1_83 wYX1_rowInto wDX1_rowInto rfl (by omega) (px_rel (by omega)) rfl (Nat.le_of_ble_eq_true rfl) (by decide) rfl ?_
    refine zz_aload_n dX1_takeCovers_27 rfl ?_
    refine zz_aload_n dX1_takeCovers_28 rfl ?_
    refine zg_rw zw_f_X1_25 dX1_takeCovers_29 (by omega) ?_
    refine zz_aload_n dX1_takeCovers_32 rfl ?_
    refine zg_rw zw_f_X1_25 dX1_takeCovers_33 (by omega) ?_
    refine zz_callV0 (ci := 1) (c_imageOf hc hEc hn (p := 24 + r) (by omega) (q := 24 + r) (by omega) (by rw [up_at, up_at, up_ne _ _ hcr, up_ne _ _ hcr]; exact hcl i (by omega))) dX1_takeCovers_36 zw_m_X1_86 wYX1_imageOf wDX1_imageOf rfl (by omega) (px_rel (by omega)) rfl (Nat.le_of_ble_eq_true rfl) (by decide) rfl ?_
    refine zz_aload_n dX1_takeCovers_39 rfl ?_
    refine zz_iload_n dX1_takeCovers_40 rfl ?_
    refine zz_aload_n dX1_takeCovers_41 rfl ?_
    refine zz_iload_n dX1_takeCovers_42 rfl ?_
    refine zz_callV1 (ci := 1) (c_lowAt hc (by omega)) dX1_takeCovers_43 zw_m_X1_36 wYX1_lowAt wDX1_lowAt rfl (by omega) (px_rel (by omega)) rfl (Nat.le_of_ble_eq_true rfl) (by decide) rfl ?_
    refine zz_aload_n dX1_takeCovers_46 rfl ?_
    refine zg_rw zw_f_X1_25 dX1_takeCovers_47 (by omega) ?_
    refine zg_bl zw_f_X1_40 dX1_takeCovers_50 (by omega) ?_
    refine zz_ldc2 dX1_takeCovers_53 zw_k_X1_81 ?_
    refine zz_lxor dX1_takeCovers_56 ?_
    refine zz_land dX1_takeCovers_57 ?_
    refine zz_aload_n dX1_takeCovers_58 rfl ?_
    refine zz_iload_n dX1_takeCovers_59 rfl ?_
    refine zz_callV1 (ci := 1) (c_highAt hc (by omega)) dX1_takeCovers_60 zw_m_X1_43 wYX1_highAt wDX1_highAt rfl (by omega) (px_rel (by omega)) rfl (Nat.le_of_ble_eq_true rfl) (by decide) rfl ?_
    refine zz_aload_n dX1_takeCovers_63 rfl ?_
    refine zg_rw zw_f_X1_25 dX1_takeCovers_64 (by omega) ?_
    refine zg_bh zw_f_X1_46 dX1_takeCovers_67 (by omega) ?_
    refine zz_ldc2 dX1_takeCovers_70 zw_k_X1_81 ?_
    refine zz_lxor dX1_takeCovers_73 ?_
    refine zz_land dX1_takeCovers_74 ?_
    refine zz_callV0 (ci := 1) (c_putWords hr (by omega) _ _) dX1_takeCovers_75 zw_m_X1_48 wYX1_putWords wDX1_putWords rfl (by omega) (px_rel (by omega)) rfl (Nat.le_of_ble_eq_true rfl) (by decide) rfl ?_
    refine zz_iinc (v := nI (i + 1)) dX1_takeCovers_78 rfl (nI_1 i) (by decide) ?_
    refine zz_goto (tgt := 10) dX1_takeCovers_81 (by decide) ?_
    have h9 := fun X Y => ih (i + 1) (by omega) (va_up B (24 + r) X) (va_up C (24 + r) Y) (frm_u hB X) (frm_u hC Y)
    rw [← cpy_s, ← cpy_s] at h9
    simp only [up_at, up_up, up_ne _ _ hcr, cpy_i]
    exact h9 _ _
set_option maxHeartbeats 1000000 in
set_option maxRecDepth 20000 in
theorem c_takeCovers {r : Nat} (hr : r < 8) {c : Nat} (hc : c < 8) (hcr : c ≠ r) {n : Nat} (hn : n ≤ 80) (hEc : El c = nI n) (hcl : cln (Lo c) (Hi c) n) : zz_C mX1_takeCovers 4 0 0 [.ref r, .ref c] (px El Lo Hi BL BH Od Ls nn T) (fun o τ => o = .inl none ∧ ∃ B C, frm (24 + r) BL B ∧ frm (24 + r) BH C ∧ τ = px (va_up El r (El c)) (va_up Lo r (cpy n (fun k => Lo c k &&& (ig (Lo c) (Lo c k) (Hi c k) ^^^ -1)) (Lo r))) (va_up Hi r (cpy n (fun k => Hi c k &&& (ig (Hi c) (Lo c k) (Hi c k) ^^^ -1)) (Hi r))) B C Od Ls nn T) := by
  refine zz_start wPX1_takeCovers rfl rfl (Nat.le_of_ble_eq_true rfl) ?_
  refine zz_aload_n dX1_takeCovers_0 rfl ?_
  refine zz_aload_n dX1_takeCovers_1 rfl ?_
  refine zg_el zw_f_X1_9 dX1_takeCovers_2 (by omega) ?_
  refine zp_el zw_f_X1_9 dX1_takeCovers_5 (by omega) ?_
  refine zz_iconst (v := 0) dX1_takeCovers_8 (by decide) ?_
  refine zz_istore_n dX1_takeCovers_9 (by decide) ?_
  have h9 := l_takeCovers (El := va_up El r (El c)) (Lo := Lo) (Hi := Hi) (BL := BL) (BH := BH) (Od := Od) (Ls := Ls) (nn := nn) (T := T) hr (n := n) (by rw [up_at]; exact hEc) hn hc hcr (by rw [up_ne _ _ hcr]; exact hEc) hcl n 0 (by omega) BL BH (frm_r _ _) (frm_r _ _)
  rw [cpy_0, cpy_0, up_self, up_self] at h9
  exact h9
set_option maxHeartbeats 1000000 in
set_option maxRecDepth 20000 in
theorem l_hasAllOf {r : Nat} (hr : r < 8) {q : Nat} (hq : q < 8) {n : Nat} (hE : El r = nI n) (hn : n ≤ 80) : ∀ (m i : Nat), i + m = n → alb (fun k => sbz (Lo q k) (Hi q k) (Lo r k) (Hi r k)) i = true → zz_E mX1_hasAllOf none 1 0 0 (fun o τ => o = .inl (some (.int (zB (alb (fun k => sbz (Lo q k) (Hi q k) (Lo r k) (Hi r k)) n)))) ∧ τ = px El Lo Hi BL BH Od Ls nn T) 2 [(2, .int (nI i)), (0, .ref r), (1, .ref q)] [] (px El Lo Hi BL BH Od Ls nn T) := by
  intro m
  induction m with
  | zero =>
    intro i hi ht
    have hi : i = n := by omega
    subst hi
    refine zz_iload_n dX1_hasAllOf_2 rfl ?_
    refine zz_aload_n dX1_hasAllOf_3 rfl ?_
    refine zg_el zw_f_X1_9 dX1_hasAllOf_4 (by omega) ?_
    refine zz_icmp_ge (tgt := 58) dX1_hasAllOf_7 (by decide) (fun _ => ?_) (fun h => absurd (by rw [hE]; exact nI_le (by omega) (by omega)) h)
    refine zz_iconst (v := 1) dX1_hasAllOf_58 (by decide) ?_
    refine zz_zret dX1_hasAllOf_59 rfl (by first | rfl | exact zB_nar _) ?_
    exact ⟨by rw [ht]; rfl, rfl⟩
  | succ m ih =>
    intro i hi ht
    refine zz_iload_n dX1_hasAllOf_2 rfl ?_
    refine zz_aload_n dX1_hasAllOf_3 rfl ?_
    refine zg_el zw_f_X1_9 dX1_hasAllOf_4 (by omega) ?_
    refine zz_icmp_ge (tgt := 58) dX1_hasAllOf_7 (by decide) (fun h => absurd h (by rw [hE]; exact nI_ge (by omega) (by omega))) (fun _ => ?_)
    refine zz_aload_n dX1_hasAllOf_10 rfl ?_
    refine zz_iload_n dX1_hasAllOf_11 rfl ?_
    refine zz_callV1 (ci := 1) (c_lowAt hq (by omega)) dX1_hasAllOf_12 zw_m_X1_36 wYX1_lowAt wDX1_lowAt rfl (by omega) (px_rel (by omega)) rfl (Nat.le_of_ble_eq_true rfl) (by decide) rfl ?_
    refine zz_aload_n dX1_hasAllOf_15 rfl ?_
    refine zz_iload_n dX1_hasAllOf_16 rfl ?_
    refine zz_callV1 (ci := 1) (c_lowAt hr (by omega)) dX1_hasAllOf_17 zw_m_X1_36 wYX1_lowAt wDX1_lowAt rfl (by omega) (px_rel (by omega)) rfl (Nat.le_of_ble_eq_true rfl) (by decide) rfl ?_
    refine zz_ldc2 dX1_hasAllOf_20 zw_k_X1_81 ?_
    refine zz_lxor dX1_hasAllOf_23 ?_
    refine zz_land dX1_hasAllOf_24 ?_
    refine zz_lconst (v := 0) dX1_hasAllOf_25 (by decide) ?_
    refine zz_lcmp dX1_hasAllOf_26 ?_
    refine zz_if_ne (tgt := 50) dX1_hasAllOf_27 (by decide) (fun h27 => ?_) (fun h27 => ?_)
    · refine zz_iconst (v := 0) dX1_hasAllOf_50 (by decide) ?_
      refine zz_zret dX1_hasAllOf_51 rfl (by first | rfl | exact zB_nar _) ?_
      refine ⟨?_, rfl⟩
      rw [alb_f (i := i) (by omega) (by simp_all [sbz, cmp_e])]
      rfl
    · refine zz_aload_n dX1_hasAllOf_30 rfl ?_
      refine zz_iload_n dX1_hasAllOf_31 rfl ?_
      refine zz_callV1 (ci := 1) (c_highAt hq (by omega)) dX1_hasAllOf_32 zw_m_X1_43 wYX1_highAt wDX1_highAt rfl (by omega) (px_rel (by omega)) rfl (Nat.le_of_ble_eq_true rfl) (by decide) rfl ?_
      refine zz_aload_n dX1_hasAllOf_35 rfl ?_
      refine zz_iload_n dX1_hasAllOf_36 rfl ?_
      refine zz_callV1 (ci := 1) (c_highAt hr (by omega)) dX1_hasAllOf_37 zw_m_X1_43 wYX1_highAt wDX1_highAt rfl (by omega) (px_rel (by omega)) rfl (Nat.le_of_ble_eq_true rfl) (by decide) rfl ?_
      refine zz_ldc2 dX1_hasAllOf_40 zw_k_X1_81 ?_
      refine zz_lxor dX1_hasAllOf_43 ?_
      refine zz_land dX1_hasAllOf_44 ?_
      refine zz_lconst (v := 0) dX1_hasAllOf_45 (by decide) ?_
      refine zz_lcmp dX1_hasAllOf_46 ?_
      refine zz_if_eq (tgt := 52) dX1_hasAllOf_47 (by decide) (fun h47 => ?_) (fun h47 => ?_)
      · refine zz_iinc (v := nI (i + 1)) dX1_hasAllOf_52 rfl (nI_1 i) (by decide) ?_
        refine zz_goto (tgt := 2) dX1_hasAllOf_55 (by decide) ?_
        refine ih (i + 1) (by omega) ?_
        show (alb _ i && _) = true
        rw [ht]
        simp_all [sbz, cmp_e]
      · refine zz_iconst (v := 0) dX1_hasAllOf_50 (by decide) ?_
        refine zz_zret dX1_hasAllOf_51 rfl (by first | rfl | exact zB_nar _) ?_
        refine ⟨?_, rfl⟩
        rw [alb_f (i := i) (by omega) (by simp_all [sbz, cmp_e])]
        rfl
set_option maxHeartbeats 1000000 in
set_option maxRecDepth 20000 in
theorem c_hasAllOf {r : Nat} (hr : r < 8) {q : Nat} (hq : q < 8) {n : Nat} (hE : El r = nI n) (hn : n ≤ 80) : zz_Dt mX1_hasAllOf 1 0 0 [.ref r, .ref q] (px El Lo Hi BL BH Od Ls nn T) (.inl (some (.int (zB (alb (fun k => sbz (Lo q k) (Hi q k) (Lo r k) (Hi r k)) n))))) (px El Lo Hi BL BH Od Ls nn T) := by
  refine zz_start wPX1_hasAllOf rfl rfl (Nat.le_of_ble_eq_true rfl) ?_
  refine zz_iconst (v := 0) dX1_hasAllOf_0 (by decide) ?_
  refine zz_istore_n dX1_hasAllOf_1 (by decide) ?_
  exact l_hasAllOf hr hq hE hn n 0 (by omega) rfl
set_option maxHeartbeats 1000000 in
set_option maxRecDepth 20000 in
theorem c_risLike {r : Nat} (hr : r < 8) {q : Nat} (hq : q < 8) {n : Nat} (hE : El r = nI n) (hn : n ≤ 80) (hEq : El q = nI n) : zz_Dt mX1_isLike 2 0 0 [.ref r, .ref q] (px El Lo Hi BL BH Od Ls nn T) (.inl (some (.int (zB (alb (fun k => sbz (Lo q k) (Hi q k) (Lo r k) (Hi r k)) n && alb (fun k => sbz (Lo r k) (Hi r k) (Lo q k) (Hi q k)) n))))) (px El Lo Hi BL BH Od Ls nn T) := by
  refine zz_start wPX1_isLike rfl rfl (Nat.le_of_ble_eq_true rfl) ?_
  refine zz_aload_n dX1_isLike_0 rfl ?_
  refine zz_aload_n dX1_isLike_1 rfl ?_
  refine zz_callV1 (ci := 1) (c_hasAllOf hr hq hE hn) dX1_isLike_2 zw_m_X1_99 wYX1_hasAllOf wDX1_hasAllOf rfl (by omega) (px_rel (by omega)) rfl (Nat.le_of_ble_eq_true rfl) (by decide) rfl ?_
  refine zz_if_eq (tgt := 20) dX1_isLike_5 (by decide) (fun h5 => ?_) (fun h5 => ?_)
  · refine zz_iconst (v := 0) dX1_isLike_20 (by decide) ?_
    refine zz_zret dX1_isLike_21 rfl (by first | rfl | exact zB_nar _) ?_
    exact ⟨by simp_all [zB_0, zB_n, zB], rfl⟩
  · refine zz_aload_n dX1_isLike_8 rfl ?_
    refine zz_aload_n dX1_isLike_9 rfl ?_
    refine zz_callV1 (ci := 1) (c_hasAllOf hq hr hEq hn) dX1_isLike_10 zw_m_X1_99 wYX1_hasAllOf wDX1_hasAllOf rfl (by omega) (px_rel (by omega)) rfl (Nat.le_of_ble_eq_true rfl) (by decide) rfl ?_
    refine zz_if_eq (tgt := 20) dX1_isLike_13 (by decide) (fun h13 => ?_) (fun h13 => ?_)
    · refine zz_iconst (v := 0) dX1_isLike_20 (by decide) ?_
      refine zz_zret dX1_isLike_21 rfl (by first | rfl | exact zB_nar _) ?_
      exact ⟨by simp_all [zB_0, zB_n, zB], rfl⟩
    · refine zz_iconst (v := 1) dX1_isLike_16 (by decide) ?_
      refine zz_goto (tgt := 21) dX1_isLike_17 (by decide) ?_
      refine zz_zret dX1_isLike_21 rfl (by first | rfl | exact zB_nar _) ?_
      exact ⟨by simp_all [zB_0, zB_n, zB], rfl⟩
set_option maxHeartbeats 1000000 in
set_option maxRecDepth 20000 in
theorem c_fits {σ : zz_St} {w : Nat} (hw : w < 6) (a b : Bool) : zz_Dt mX1_fits 0 0 0 [.int (nI w), .int (zB a), .int (zB b)] σ (.inl (some (.int (zB (ftz (nI w) a b))))) σ := by
  refine zz_start wPX1_fits rfl rfl (Nat.le_of_ble_eq_true rfl) ?_
  rcases (show w = 0 ∨ w = 1 ∨ w = 2 ∨ w = 3 ∨ w = 4 ∨ w = 5 by omega) with rfl | rfl | rfl | rfl | rfl | rfl
  · refine zz_iload_n dX1_fits_0 rfl ?_
    refine zz_lookup (tgt := 53) dX1_fits_1 (by decide) rfl (by decide) ?_
    cases a <;> cases b
    · refine zz_iload_n dX1_fits_53 rfl ?_
      refine zz_if_ne (tgt := 61) dX1_fits_54 (by decide) (fun h => absurd rfl h) (fun _ => ?_)
      refine zz_iload_n dX1_fits_57 rfl ?_
      refine zz_if_eq (tgt := 65) dX1_fits_58 (by decide) (fun _ => ?_) (fun h => absurd rfl h)
      refine zz_iconst (v := 0) dX1_fits_65 (by decide) ?_
      refine zz_zret dX1_fits_66 rfl (by first | rfl | exact zB_nar _) ?_
      exact ⟨rfl, rfl⟩
    · refine zz_iload_n dX1_fits_53 rfl ?_
      refine zz_if_ne (tgt := 61) dX1_fits_54 (by decide) (fun h => absurd rfl h) (fun _ => ?_)
      refine zz_iload_n dX1_fits_57 rfl ?_
      refine zz_if_eq (tgt := 65) dX1_fits_58 (by decide) (fun h => absurd h (by decide)) (fun _ => ?_)
      refine zz_iconst (v := 1) dX1_fits_61 (by decide) ?_
      refine zz_goto (tgt := 66) dX1_fits_62 (by decide) ?_
      refine zz_zret dX1_fits_66 rfl (by first | rfl | exact zB_nar _) ?_
      exact ⟨rfl, rfl⟩
    · refine zz_iload_n dX1_fits_53 rfl ?_
      refine zz_if_ne (tgt := 61) dX1_fits_54 (by decide) (fun _ => ?_) (fun h => absurd h (by decide))
      refine zz_iconst (v := 1) dX1_fits_61 (by decide) ?_
      refine zz_goto (tgt := 66) dX1_fits_62 (by decide) ?_
      refine zz_zret dX1_fits_66 rfl (by first | rfl | exact zB_nar _) ?_
      exact ⟨rfl, rfl⟩
    · refine zz_iload_n dX1_fits_53 rfl ?_
      refine zz_if_ne (tgt := 61) dX1_fits_54 (by decide) (fun _ => ?_) (fun h => absurd h (by decide))
      refine zz_iconst (v := 1) dX1_fits_61 (by decide) ?_
      refine zz_goto (tgt := 66) dX1_fits_62 (by decide) ?_
      refine zz_zret dX1_fits_66 rfl (by first | rfl | exact zB_nar _) ?_
      exact ⟨rfl, rfl⟩
  · refine zz_iload_n dX1_fits_0 rfl ?_
    refine zz_lookup (tgt := 53) dX1_fits_1 (by decide) rfl (by decide) ?_
    cases a <;> cases b
    · refine zz_iload_n dX1_fits_53 rfl ?_
      refine zz_if_ne (tgt := 61) dX1_fits_54 (by decide) (fun h => absurd rfl h) (fun _ => ?_)
      refine zz_iload_n dX1_fits_57 rfl ?_
      refine zz_if_eq (tgt := 65) dX1_fits_58 (by decide) (fun _ => ?_) (fun h => absurd rfl h)
      refine zz_iconst (v := 0) dX1_fits_65 (by decide) ?_
      refine zz_zret dX1_fits_66 rfl (by first | rfl | exact zB_nar _) ?_
      exact ⟨rfl, rfl⟩
    · refine zz_iload_n dX1_fits_53 rfl ?_
      refine zz_if_ne (tgt := 61) dX1_fits_54 (by decide) (fun h => absurd rfl h) (fun _ => ?_)
      refine zz_iload_n dX1_fits_57 rfl ?_
      refine zz_if_eq (tgt := 65) dX1_fits_58 (by decide) (fun h => absurd h (by decide)) (fun _ => ?_)
      refine zz_iconst (v := 1) dX1_fits_61 (by decide) ?_
      refine zz_goto (tgt := 66) dX1_fits_62 (by decide) ?_
      refine zz_zret dX1_fits_66 rfl (by first | rfl | exact zB_nar _) ?_
      exact ⟨rfl, rfl⟩
    · refine zz_iload_n dX1_fits_53 rfl ?_
      refine zz_if_ne (tgt := 61) dX1_fits_54 (by decide) (fun _ => ?_) (fun h => absurd h (by decide))
      refine zz_iconst (v := 1) dX1_fits_61 (by decide) ?_
      refine zz_goto (tgt := 66) dX1_fits_62 (by decide) ?_
      refine zz_zret dX1_fits_66 rfl (by first | rfl | exact zB_nar _) ?_
      exact ⟨rfl, rfl⟩
    · refine zz_iload_n dX1_fits_53 rfl ?_
      refine zz_if_ne (tgt := 61) dX1_fits_54 (by decide) (fun _ => ?_) (fun h => absurd h (by decide))
      refine zz_iconst (v := 1) dX1_fits_61 (by decide) ?_
      refine zz_goto (tgt := 66) dX1_fits_62 (by decide) ?_
      refine zz_zret dX1_fits_66 rfl (by first | rfl | exact zB_nar _) ?_
      exact ⟨rfl, rfl⟩
  · refine zz_iload_n dX1_fits_0 rfl ?_
    refine zz_lookup (tgt := 28) dX1_fits_1 (by decide) rfl (by decide) ?_
    cases a <;> cases b
    · refine zz_iload_n dX1_fits_28 rfl ?_
      refine zz_iload_n dX1_fits_29 rfl ?_
      refine zz_icmp_ne (tgt := 37) dX1_fits_30 (by decide) (fun h => absurd rfl h) (fun _ => ?_)
      refine zz_iconst (v := 1) dX1_fits_33 (by decide) ?_
      refine zz_goto (tgt := 38) dX1_fits_34 (by decide) ?_
      refine zz_zret dX1_fits_38 rfl (by first | rfl | exact zB_nar _) ?_
      exact ⟨rfl, rfl⟩
    · refine zz_iload_n dX1_fits_28 rfl ?_
      refine zz_iload_n dX1_fits_29 rfl ?_
      refine zz_icmp_ne (tgt := 37) dX1_fits_30 (by decide) (fun _ => ?_) (fun h => absurd h (by decide))
      refine zz_iconst (v := 0) dX1_fits_37 (by decide) ?_
      refine zz_zret dX1_fits_38 rfl (by first | rfl | exact zB_nar _) ?_
      exact ⟨rfl, rfl⟩
    · refine zz_iload_n dX1_fits_28 rfl ?_
      refine zz_iload_n dX1_fits_29 rfl ?_
      refine zz_icmp_ne (tgt := 37) dX1_fits_30 (by decide) (fun _ => ?_) (fun h => absurd h (by decide))
      refine zz_iconst (v := 0) dX1_fits_37 (by decide) ?_
      refine zz_zret dX1_fits_38 rfl (by first | rfl | exact zB_nar _) ?_
      exact ⟨rfl, rfl⟩
    · refine zz_iload_n dX1_fits_28 rfl ?_
      refine zz_iload_n dX1_fits_29 rfl ?_
      refine zz_icmp_ne (tgt := 37) dX1_fits_30 (by decide) (fun h => absurd rfl h) (fun _ => ?_)
      refine zz_iconst (v := 1) dX1_fits_33 (by decide) ?_
      refine zz_goto (tgt := 38) dX1_fits_34 (by decide) ?_
      refine zz_zret dX1_fits_38 rfl (by first | rfl | exact zB_nar _) ?_
      exact ⟨rfl, rfl⟩
  · refine zz_iload_n dX1_fits_0 rfl ?_
    refine zz_lookup (tgt := 39) dX1_fits_1 (by decide) rfl (by decide) ?_
    cases a <;> cases b
    · refine zz_iload_n dX1_fits_39 rfl ?_
      refine zz_if_eq (tgt := 47) dX1_fits_40 (by decide) (fun _ => ?_) (fun h => absurd rfl h)
      refine zz_iconst (v := 1) dX1_fits_47 (by decide) ?_
      refine zz_goto (tgt := 52) dX1_fits_48 (by decide) ?_
      refine zz_zret dX1_fits_52 rfl (by first | rfl | exact zB_nar _) ?_
      exact ⟨rfl, rfl⟩
    · refine zz_iload_n dX1_fits_39 rfl ?_
      refine zz_if_eq (tgt := 47) dX1_fits_40 (by decide) (fun _ => ?_) (fun h => absurd rfl h)
      refine zz_iconst (v := 1) dX1_fits_47 (by decide) ?_
      refine zz_goto (tgt := 52) dX1_fits_48 (by decide) ?_
      refine zz_zret dX1_fits_52 rfl (by first | rfl | exact zB_nar _) ?_
      exact ⟨rfl, rfl⟩
    · refine zz_iload_n dX1_fits_39 rfl ?_
      refine zz_if_eq (tgt := 47) dX1_fits_40 (by decide) (fun h => absurd h (by decide)) (fun _ => ?_)
      refine zz_iload_n dX1_fits_43 rfl ?_
      refine zz_if_ne (tgt := 51) dX1_fits_44 (by decide) (fun h => absurd rfl h) (fun _ => ?_)
      refine zz_iconst (v := 1) dX1_fits_47 (by decide) ?_
      refine zz_goto (tgt := 52) dX1_fits_48 (by decide) ?_
      refine zz_zret dX1_fits_52 rfl (by first | rfl | exact zB_nar _) ?_
      exact ⟨rfl, rfl⟩
    · refine zz_iload_n dX1_fits_39 rfl ?_
      refine zz_if_eq (tgt := 47) dX1_fits_40 (by decide) (fun h => absurd h (by decide)) (fun _ => ?_)
      refine zz_iload_n dX1_fits_43 rfl ?_
      refine zz_if_ne (tgt := 51) dX1_fits_44 (by decide) (fun _ => ?_) (fun h => absurd h (by decide))
      refine zz_iconst (v := 0) dX1_fits_51 (by decide) ?_
      refine zz_zret dX1_fits_52 rfl (by first | rfl | exact zB_nar _) ?_
      exact ⟨rfl, rfl⟩
  · refine zz_iload_n dX1_fits_0 rfl ?_
    refine zz_lookup (tgt := 53) dX1_fits_1 (by decide) rfl (by decide) ?_
    cases a <;> cases b
    · refine zz_iload_n dX1_fits_53 rfl ?_
      refine zz_if_ne (tgt := 61) dX1_fits_54 (by decide) (fun h => absurd rfl h) (fun _ => ?_)
      refine zz_iload_n dX1_fits_57 rfl ?_
      refine zz_if_eq (tgt := 65) dX1_fits_58 (by decide) (fun _ => ?_) (fun h => absurd rfl h)
      refine zz_iconst (v := 0) dX1_fits_65 (by decide) ?_
      refine zz_zret dX1_fits_66 rfl (by first | rfl | exact zB_nar _) ?_
      exact ⟨rfl, rfl⟩
    · refine zz_iload_n dX1_fits_53 rfl ?_
      refine zz_if_ne (tgt := 61) dX1_fits_54 (by decide) (fun h => absurd rfl h) (fun _ => ?_)
      refine zz_iload_n dX1_fits_57 rfl ?_
      refine zz_if_eq (tgt := 65) dX1_fits_58 (by decide) (fun h => absurd h (by decide)) (fun _ => ?_)
      refine zz_iconst (v := 1) dX1_fits_61 (by decide) ?_
      refine zz_goto (tgt := 66) dX1_fits_62 (by decide) ?_
      refine zz_zret dX1_fits_66 rfl (by first | rfl | exact zB_nar _) ?_
      exact ⟨rfl, rfl⟩
    · refine zz_iload_n dX1_fits_53 rfl ?_
      refine zz_if_ne (tgt := 61) dX1_fits_54 (by decide) (fun _ => ?_) (fun h => absurd h (by decide))
      refine zz_iconst (v := 1) dX1_fits_61 (by decide) ?_
      refine zz_goto (tgt := 66) dX1_fits_62 (by decide) ?_
      refine zz_zret dX1_fits_66 rfl (by first | rfl | exact zB_nar _) ?_
      exact ⟨rfl, rfl⟩
    · refine zz_iload_n dX1_fits_53 rfl ?_
      refine zz_if_ne (tgt := 61) dX1_fits_54 (by decide) (fun _ => ?_) (fun h => absurd h (by decide))
      refine zz_iconst (v := 1) dX1_fits_61 (by decide) ?_
      refine zz_goto (tgt := 66) dX1_fits_62 (by decide) ?_
      refine zz_zret dX1_fits_66 rfl (by first | rfl | exact zB_nar _) ?_
      exact ⟨rfl, rfl⟩
  · refine zz_iload_n dX1_fits_0 rfl ?_
    refine zz_lookup (tgt := 53) dX1_fits_1 (by decide) rfl (by decide) ?_
    cases a <;> cases b
    · refine zz_iload_n dX1_fits_53 rfl ?_
      refine zz_if_ne (tgt := 61) dX1_fits_54 (by decide) (fun h => absurd rfl h) (fun _ => ?_)
      refine zz_iload_n dX1_fits_57 rfl ?_
      refine zz_if_eq (tgt := 65) dX1_fits_58 (by decide) (fun _ => ?_) (fun h => absurd rfl h)
      refine zz_iconst (v := 0) dX1_fits_65 (by decide) ?_
      refine zz_zret dX1_fits_66 rfl (by first | rfl | exact zB_nar _) ?_
      exact ⟨rfl, rfl⟩
    · refine zz_iload_n dX1_fits_53 rfl ?_
      refine zz_if_ne (tgt := 61) dX1_fits_54 (by decide) (fun h => absurd rfl h) (fun _ => ?_)
      refine zz_iload_n dX1_fits_57 rfl ?_
      refine zz_if_eq (tgt := 65) dX1_fits_58 (by decide) (fun h => absurd h (by decide)) (fun _ => ?_)
      refine zz_iconst (v := 1) dX1_fits_61 (by decide) ?_
      refine zz_goto (tgt := 66) dX1_fits_62 (by decide) ?_
      refine zz_zret dX1_fits_66 rfl (by first | rfl | exact zB_nar _) ?_
      exact ⟨rfl, rfl⟩
    · refine zz_iload_n dX1_fits_53 rfl ?_
      refine zz_if_ne (tgt := 61) dX1_fits_54 (by decide) (fun _ => ?_) (fun h => absurd h (by decide))
      refine zz_iconst (v := 1) dX1_fits_61 (by decide) ?_
      refine zz_goto (tgt := 66) dX1_fits_62 (by decide) ?_
      refine zz_zret dX1_fits_66 rfl (by first | rfl | exact zB_nar _) ?_
      exact ⟨rfl, rfl⟩
    · refine zz_iload_n dX1_fits_53 rfl ?_
      refine zz_if_ne (tgt := 61) dX1_fits_54 (by decide) (fun _ => ?_) (fun h => absurd h (by decide))
      refine zz_iconst (v := 1) dX1_fits_61 (by decide) ?_
      refine zz_goto (tgt := 66) dX1_fits_62 (by decide) ?_
      refine zz_zret dX1_fits_66 rfl (by first | rfl | exact zB_nar _) ?_
      exact ⟨rfl, rfl⟩
set_option maxHeartbeats 1000000 in
set_option maxRecDepth 20000 in
theorem l_isTransitive {r : Nat} (hr : r < 8) {n : Nat} (hE : El r = nI n) (hn : n ≤ 80) (hcl : cln (Lo r) (Hi r) n) : ∀ (m i : Nat), i + m = n → ∀ (B C : Nat → Int64), frm (24 + r) BL B → frm (24 + r) BH C → alb (fun k => sbz (ig (Lo r) (Lo r k) (Hi r k)) (ig (Hi r) (Lo r k) (Hi r k)) (Lo r k) (Hi r k)) i = true → zz_E mX1_isTransitive none 4 0 0 (fun o τ => o = .inl (some (.int (zB (alb (fun k => sbz (ig (Lo r) (Lo r k) (Hi r k)) (ig (Hi r) (Lo r k) (Hi r k)) (Lo r k) (Hi r k)) n)))) ∧ ∃ B C, frm (24 + r) BL B ∧ frm (24 + r) BH C ∧ τ = px El Lo Hi B C Od Ls nn T) 2 [(1, .int (nI i)), (0, .ref r)] [] (px El Lo Hi B C Od Ls nn T) := by
  intro m
  induction m with
  | zero =>
    intro i hi B C hB hC ht
    have hi : i = n := by omega
    subst hi
    refine zz_iload_n dX1_isTransitive_2 rfl ?_
    refine zz_aload_n dX1_isTransitive_3 rfl ?_
    refine zg_el zw_f_X1_9 dX1_isTransitive_4 (by omega) ?_
    refine zz_icmp_ge (tgt := 83) dX1_isTransitive_7 (by decide) (fun _ => ?_) (fun h => absurd (by rw [hE]; exact nI_le (by omega) (by omega)) h)
    refine zz_iconst (v := 1) dX1_isTransitive_83 (by decide) ?_
    refine zz_zret dX1_isTransitive_84 rfl (by first | rfl | exact zB_nar _) ?_
    exact ⟨by rw [ht]; rfl, B, C, hB, hC, rfl⟩
  | succ m ih =>
    intro i hi B C hB hC ht
    refine zz_iload_n dX1_isTransitive_2 rfl ?_
    refine zz_aload_n dX1_isTransitive_3 rfl ?_
    refine zg_el zw_f_X1_9 dX1_isTransitive_4 (by omega) ?_
    refine zz_icmp_ge (tgt := 83) dX1_isTransitive_7 (by decide) (fun h => absurd h (by rw [hE]; exact nI_ge (by omega) (by omega))) (fun _ => ?_)
    refine zz_aload_n dX1_isTransitive_10 rfl ?_
    refine zz_iload_n dX1_isTransitive_11 rfl ?_
    refine zz_aload_n dX1_isTransitive_12 rfl ?_
    refine zg_rw zw_f_X1_25 dX1_isTransitive_13 (by omega) ?_
    refine zz_callV0 (ci := 1) (c_rowInto hr (by omega) (by omega)) dX1_isTransitive_16 zw_m_X1_83 wYX1_rowInto wDX1_rowInto rfl (by omega) (px_rel (by omega)) rfl (Nat.le_of_ble_eq_true rfl) (by decide) rfl ?_
    refine zz_aload_n dX1_isTransitive_19 rfl ?_
    refine zz_aload_n dX1_isTransitive_20 rfl ?_
    refine zg_rw zw_f_X1_25 dX1_isTransitive_21 (by omega) ?_
    refine zz_aload_n dX1_isTransitive_24 rfl ?_
    refine zg_rw zw_f_X1_25 dX1_isTransitive_25 (by omega) ?_
    refine zz_callV0 (ci := 1) (c_imageOf hr hE hn (p := 24 + r) (by omega) (q := 24 + r) (by omega) (by rw [up_at, up_at]; exact hcl i (by omega))) dX1_isTransitive_28 zw_m_X1_86 wYX1_imageOf wDX1_imageOf rfl (by omega) (px_rel (by omega)) rfl (Nat.le_of_ble_eq_true rfl) (by decide) rfl ?_
    refine zz_aload_n dX1_isTransitive_31 rfl ?_
    refine zg_rw zw_f_X1_25 dX1_isTransitive_32 (by omega) ?_
    refine zg_bl zw_f_X1_40 dX1_isTransitive_35 (by omega) ?_
    refine zz_aload_n dX1_isTransitive_38 rfl ?_
    refine zz_iload_n dX1_isTransitive_39 rfl ?_
    refine zz_callV1 (ci := 1) (c_lowAt hr (by omega)) dX1_isTransitive_40 zw_m_X1_36 wYX1_lowAt wDX1_lowAt rfl (by omega) (px_rel (by omega)) rfl (Nat.le_of_ble_eq_true rfl) (by decide) rfl ?_
    refine zz_ldc2 dX1_isTransitive_43 zw_k_X1_81 ?_
    refine zz_lxor dX1_isTransitive_46 ?_
    refine zz_land dX1_isTransitive_47 ?_
    refine zz_lconst (v := 0) dX1_isTransitive_48 (by decide) ?_
    refine zz_lcmp dX1_isTransitive_49 ?_
    refine zz_if_ne (tgt := 75) dX1_isTransitive_50 (by decide) (fun h50 => ?_) (fun h50 => ?_)
    · refine zz_iconst (v := 0) dX1_isTransitive_75 (by decide) ?_
      refine zz_zret dX1_isTransitive_76 rfl (by first | rfl | exact zB_nar _) ?_
      refine ⟨?_, _, _, frm_u (frm_u hB _) _, frm_u (frm_u hC _) _, rfl⟩
      rw [alb_f (i := i) (by omega) (by simp_all [sbz, cmp_e, up_at, up_up])]
      rfl
    · refine zz_aload_n dX1_isTransitive_53 rfl ?_
      refine zg_rw zw_f_X1_25 dX1_isTransitive_54 (by omega) ?_
      refine zg_bh zw_f_X1_46 dX1_isTransitive_57 (by omega) ?_
      refine zz_aload_n dX1_isTransitive_60 rfl ?_
      refine zz_iload_n dX1_isTransitive_61 rfl ?_
      refine zz_callV1 (ci := 1) (c_highAt hr (by omega)) dX1_isTransitive_62 zw_m_X1_43 wYX1_highAt wDX1_highAt rfl (by omega) (px_rel (by omega)) rfl (Nat.le_of_ble_eq_true rfl) (by decide) rfl ?_
      refine zz_ldc2 dX1_isTransitive_65 zw_k_X1_81 ?_
      refine zz_lxor dX1_isTransitive_68 ?_
      refine zz_land dX1_isTransitive_69 ?_
      refine zz_lconst (v := 0) dX1_isTransitive_70 (by decide) ?_
      refine zz_lcmp dX1_isTransitive_71 ?_
      refine zz_if_eq (tgt := 77) dX1_isTransitive_72 (by decide) (fun h72 => ?_) (fun h72 => ?_)
      · refine zz_iinc (v := nI (i + 1)) dX1_isTransitive_77 rfl (nI_1 i) (by decide) ?_
        refine zz_goto (tgt := 2) dX1_isTransitive_80 (by decide) ?_
        refine ih (i + 1) (by omega) _ _ (frm_u (frm_u hB _) _) (frm_u (frm_u hC _) _) ?_
        show (alb _ i && _) = true
        rw [ht]
        simp_all [sbz, cmp_e, up_at, up_up]
      · refine zz_iconst (v := 0) dX1_isTransitive_75 (by decide) ?_
        refine zz_zret dX1_isTransitive_76 rfl (by first | rfl | exact zB_nar _) ?_
        refine ⟨?_, _, _, frm_u (frm_u hB _) _, frm_u (frm_u hC _) _, rfl⟩
        rw [alb_f (i := i) (by omega) (by simp_all [sbz, cmp_e, up_at, up_up])]
        rfl
set_option maxHeartbeats 1000000 in
set_option maxRecDepth 20000 in
theorem c_isTransitive {r : Nat} (hr : r < 8) {n : Nat} (hE : El r = nI n) (hn : n ≤ 80) (hcl : cln (Lo r) (Hi r) n) : zz_C mX1_isTransitive 4 0 0 [.ref r] (px El Lo Hi BL BH Od Ls nn T) (fun o τ => o = .inl (some (.int (zB (alb (fun k => sbz (ig (Lo r) (Lo r k) (Hi r k)) (ig (Hi r) (Lo r k) (Hi r k)) (Lo r k) (Hi r k)) n)))) ∧ ∃ B C, frm (24 + r) BL B ∧ frm (24 + r) BH C ∧ τ = px El Lo Hi B C Od Ls nn T) := by
  refine zz_start wPX1_isTransitive rfl rfl (Nat.le_of_ble_eq_true rfl) ?_
  refine zz_iconst (v := 0) dX1_isTransitive_0 (by decide) ?_
  refine zz_istore_n dX1_isTransitive_1 (by decide) ?_
  exact l_isTransitive hr hE hn hcl n 0 (by omega) BL BH (frm_r _ _) (frm_r _ _) rfl
set_option maxHeartbeats 1000000 in
set_option maxRecDepth 20000 in
theorem c_inOneClass {r : Nat} (hr : r < 8) {i j : Nat} (hi : i < 80) (hj : j < 80) : zz_Dt mX1_inOneClass 2 0 0 [.ref r, .int (nI i), .int (nI j)] (px El Lo Hi BL BH Od Ls nn T) (.inl (some (.int (zB (ioc (Lo r) (Hi r) i j))))) (px El Lo Hi BL BH Od Ls nn T) := by
  refine zz_start wPX1_inOneClass rfl rfl (Nat.le_of_ble_eq_true rfl) ?_
  refine zz_iload_n dX1_inOneClass_0 rfl ?_
  refine zz_iload_n dX1_inOneClass_1 rfl ?_
  refine zz_icmp_eq (tgt := 23) dX1_inOneClass_2 (by decide) (fun h2 => ?_) (fun h2 => ?_)
  · refine zz_iconst (v := 1) dX1_inOneClass_23 (by decide) ?_
    refine zz_goto (tgt := 28) dX1_inOneClass_24 (by decide) ?_
    refine zz_zret dX1_inOneClass_28 rfl (by first | rfl | exact zB_nar _) ?_
    refine ⟨?_, rfl⟩
    simp only [nI_eq (show i < 2 ^ 31 by omega) (show j < 2 ^ 31 by omega), zB_0, zB_n] at *
    simp_all [ioc, zB]
  · refine zz_aload_n dX1_inOneClass_5 rfl ?_
    refine zz_iload_n dX1_inOneClass_6 rfl ?_
    refine zz_iload_n dX1_inOneClass_7 rfl ?_
    refine zz_callV1 (ci := 1) (c_rholds hr hi _) dX1_inOneClass_8 zw_m_X1_73 wYX1_holds wDX1_holds rfl (by omega) (px_rel (by omega)) rfl (Nat.le_of_ble_eq_true rfl) (by decide) rfl ?_
    refine zz_if_eq (tgt := 27) dX1_inOneClass_11 (by decide) (fun h11 => ?_) (fun h11 => ?_)
    · refine zz_iconst (v := 0) dX1_inOneClass_27 (by decide) ?_
      refine zz_zret dX1_inOneClass_28 rfl (by first | rfl | exact zB_nar _) ?_
      refine ⟨?_, rfl⟩
      simp only [nI_eq (show i < 2 ^ 31 by omega) (show j < 2 ^ 31 by omega), zB_0, zB_n] at *
      simp_all [ioc, zB]
    · refine zz_aload_n dX1_inOneClass_14 rfl ?_
      refine zz_iload_n dX1_inOneClass_15 rfl ?_
      refine zz_iload_n dX1_inOneClass_16 rfl ?_
      refine zz_callV1 (ci := 1) (c_rholds hr hj _) dX1_inOneClass_17 zw_m_X1_73 wYX1_holds wDX1_holds rfl (by omega) (px_rel (by omega)) rfl (Nat.le_of_ble_eq_true rfl) (by decide) rfl ?_
      refine zz_if_eq (tgt := 27) dX1_inOneClass_20 (by decide) (fun h20 => ?_) (fun h20 => ?_)
      · refine zz_iconst (v := 0) dX1_inOneClass_27 (by decide) ?_
        refine zz_zret dX1_inOneClass_28 rfl (by first | rfl | exact zB_nar _) ?_
        refine ⟨?_, rfl⟩
        simp only [nI_eq (show i < 2 ^ 31 by omega) (show j < 2 ^ 31 by omega), zB_0, zB_n] at *
        simp_all [ioc, zB]
      · refine zz_iconst (v := 1) dX1_inOneClass_23 (by decide) ?_
        refine zz_goto (tgt := 28) dX1_inOneClass_24 (by decide) ?_
        refine zz_zret dX1_inOneClass_28 rfl (by first | rfl | exact zB_nar _) ?_
        refine ⟨?_, rfl⟩
        simp only [nI_eq (show i < 2 ^ 31 by omega) (show j < 2 ^ 31 by omega), zB_0, zB_n] at *
        simp_all [ioc, zB]
theorem ff_t {f : Nat → Bool} {m i : Nat} (h : f i = true) : ff f (m + 1) i = i := if_pos h
theorem ff_f {f : Nat → Bool} {m i : Nat} (h : f i = false) : ff f (m + 1) i = ff f m (i + 1) := if_neg (by rw [h]; simp)
set_option maxHeartbeats 1000000 in
set_option maxRecDepth 20000 in
theorem l_leastOfClass {r : Nat} (hr : r < 8) {j : Nat} (hj : j < 80) (v : Nat) : ∀ (m i : Nat), i + m = j → ff (fun k => ioc (Lo r) (Hi r) k j) m i = v → zz_E mX1_leastOfClass none 3 0 0 (fun o τ => o = .inl (some (.int (nI v))) ∧ τ = px El Lo Hi BL BH Od Ls nn T) 2 [(2, .int (nI i)), (0, .ref r), (1, .int (nI j))] [] (px El Lo Hi BL BH Od Ls nn T) := by
  intro m
  induction m with
  | zero =>
    intro i hi hv
    have hi : i = j := by omega
    subst hi
    refine zz_iload_n dX1_leastOfClass_2 rfl ?_
    refine zz_iload_n dX1_leastOfClass_3 rfl ?_
    refine zz_icmp_ge (tgt := 24) dX1_leastOfClass_4 (by decide) (fun _ => ?_) (fun h => absurd (nI_le (by omega) (by omega)) h)
    refine zz_iload_n dX1_leastOfClass_24 rfl ?_
    refine zz_iret dX1_leastOfClass_25 rfl ?_
    exact ⟨by rw [← hv]; rfl, rfl⟩
  | succ m ih =>
    intro i hi hv
    refine zz_iload_n dX1_leastOfClass_2 rfl ?_
    refine zz_iload_n dX1_leastOfClass_3 rfl ?_
    refine zz_icmp_ge (tgt := 24) dX1_leastOfClass_4 (by decide) (fun h => absurd h (nI_ge (by omega) (by omega))) (fun _ => ?_)
    refine zz_aload_n dX1_leastOfClass_7 rfl ?_
    refine zz_iload_n dX1_leastOfClass_8 rfl ?_
    refine zz_iload_n dX1_leastOfClass_9 rfl ?_
    refine zz_callV1 (ci := 1) (c_inOneClass hr (by omega) hj) dX1_leastOfClass_10 zw_m_X1_107 wYX1_inOneClass wDX1_inOneClass rfl (by omega) (px_rel (by omega)) rfl (Nat.le_of_ble_eq_true rfl) (by decide) rfl ?_
    refine zz_if_eq (tgt := 18) dX1_leastOfClass_13 (by decide) (fun h13 => ?_) (fun h13 => ?_)
    · refine zz_iinc (v := nI (i + 1)) dX1_leastOfClass_18 rfl (nI_1 i) (by decide) ?_
      refine zz_goto (tgt := 2) dX1_leastOfClass_21 (by decide) ?_
      exact ih (i + 1) (by omega) (by rw [← hv]; exact (ff_f (f := fun k => ioc (Lo r) (Hi r) k j) (zB_0.mp h13)).symm)
    · refine zz_iload_n dX1_leastOfClass_16 rfl ?_
      refine zz_iret dX1_leastOfClass_17 rfl ?_
      exact ⟨by rw [← hv, ff_t (f := fun k => ioc (Lo r) (Hi r) k j) (zB_n.mp h13)], rfl⟩
set_option maxHeartbeats 1000000 in
set_option maxRecDepth 20000 in
theorem c_leastOfClass {r : Nat} (hr : r < 8) {j : Nat} (hj : j < 80) : zz_Dt mX1_leastOfClass 3 0 0 [.ref r, .int (nI j)] (px El Lo Hi BL BH Od Ls nn T) (.inl (some (.int (nI (ff (fun k => ioc (Lo r) (Hi r) k j) j 0))))) (px El Lo Hi BL BH Od Ls nn T) := by
  refine zz_start wPX1_leastOfClass rfl rfl (Nat.le_of_ble_eq_true rfl) ?_
  refine zz_iconst (v := 0) dX1_leastOfClass_0 (by decide) ?_
  refine zz_istore_n dX1_leastOfClass_1 (by decide) ?_
  exact l_leastOfClass hr hj _ j 0 (by omega) rfl
theorem ff_le (f : Nat → Bool) : ∀ m i, ff f m i ≤ i + m
  | 0, i => Nat.le_refl _
  | m + 1, i => by
    show (if f i = true then i else ff f m (i + 1)) ≤ _
    split
    · omega
    · have := ff_le f m (i + 1); omega
set_option maxHeartbeats 1000000 in
set_option maxRecDepth 20000 in
theorem l_classesInside {r : Nat} (hr : r < 8) {n : Nat} (hE : El r = nI n) (hn : n ≤ 80) : ∀ (m i : Nat), i + m = n → zz_E mX1_classesInside none 4 0 0 (fun o τ => o = .inl (some (.int (nI (cnt (fun k => decide (ff (fun a => ioc (Lo r) (Hi r) a k) k 0 = k)) n)))) ∧ τ = px El Lo Hi BL BH Od Ls nn T) 4 [(2, .int (nI i)), (1, .int (nI (cnt (fun k => decide (ff (fun a => ioc (Lo r) (Hi r) a k) k 0 = k)) i))), (0, .ref r)] [] (px El Lo Hi BL BH Od Ls nn T) := by
  intro m
  induction m with
  | zero =>
    intro i hi
    have hi : i = n := by omega
    subst hi
    refine zz_iload_n dX1_classesInside_4 rfl ?_
    refine zz_aload_n dX1_classesInside_5 rfl ?_
    refine zg_el zw_f_X1_9 dX1_classesInside_6 (by omega) ?_
    refine zz_icmp_ge (tgt := 30) dX1_classesInside_9 (by decide) (fun _ => ?_) (fun h => absurd (by rw [hE]; exact nI_le (by omega) (by omega)) h)
    refine zz_iload_n dX1_classesInside_30 rfl ?_
    refine zz_iret dX1_classesInside_31 rfl ?_
    exact ⟨rfl, rfl⟩
  | succ m ih =>
    intro i hi
    refine zz_iload_n dX1_classesInside_4 rfl ?_
    refine zz_aload_n dX1_classesInside_5 rfl ?_
    refine zg_el zw_f_X1_9 dX1_classesInside_6 (by omega) ?_
    refine zz_icmp_ge (tgt := 30) dX1_classesInside_9 (by decide) (fun h => absurd h (by rw [hE]; exact nI_ge (by omega) (by omega))) (fun _ => ?_)
    refine zz_aload_n dX1_classesInside_12 rfl ?_
    refine zz_iload_n dX1_classesInside_13 rfl ?_
    refine zz_callV1 (ci := 1) (c_leastOfClass hr (by omega)) dX1_classesInside_14 zw_m_X1_110 wYX1_leastOfClass wDX1_leastOfClass rfl (by omega) (px_rel (by omega)) rfl (Nat.le_of_ble_eq_true rfl) (by decide) rfl ?_
    refine zz_iload_n dX1_classesInside_17 rfl ?_
    refine zz_icmp_ne (tgt := 24) dX1_classesInside_18 (by decide) (fun h18 => ?_) (fun h18 => ?_)
    · refine zz_iinc (v := nI (i + 1)) dX1_classesInside_24 rfl (nI_1 i) (by decide) ?_
      refine zz_goto (tgt := 4) dX1_classesInside_27 (by decide) ?_
      have hle := ff_le (fun a => ioc (Lo r) (Hi r) a i) i 0
      rw [nI_eq (by omega) (by omega)] at h18
      have h9 := ih (i + 1) (by omega)
      simp only [cnt, h18, decide_true, decide_false, Bool.false_eq_true, reduceIte] at h9
      exact h9
    · refine zz_iinc (v := nI (cnt (fun k => decide (ff (fun a => ioc (Lo r) (Hi r) a k) k 0 = k)) i + 1)) dX1_classesInside_21 rfl (nI_1 _) (by decide) ?_
      refine zz_iinc (v := nI (i + 1)) dX1_classesInside_24 rfl (nI_1 i) (by decide) ?_
      refine zz_goto (tgt := 4) dX1_classesInside_27 (by decide) ?_
      have hle := ff_le (fun a => ioc (Lo r) (Hi r) a i) i 0
      rw [nI_eq (by omega) (by omega)] at h18
      have h9 := ih (i + 1) (by omega)
      simp only [cnt, h18, decide_true, decide_false, Bool.false_eq_true, reduceIte] at h9
      exact h9
set_option maxHeartbeats 1000000 in
set_option maxRecDepth 20000 in
theorem c_classesInside {r : Nat} (hr : r < 8) {n : Nat} (hE : El r = nI n) (hn : n ≤ 80) : zz_Dt mX1_classesInside 4 0 0 [.ref r] (px El Lo Hi BL BH Od Ls nn T) (.inl (some (.int (nI (cnt (fun k => decide (ff (fun a => ioc (Lo r) (Hi r) a k) k 0 = k)) n))))) (px El Lo Hi BL BH Od Ls nn T) := by
  refine zz_start wPX1_classesInside rfl rfl (Nat.le_of_ble_eq_true rfl) ?_
  refine zz_iconst (v := 0) dX1_classesInside_0 (by decide) ?_
  refine zz_istore_n dX1_classesInside_1 (by decide) ?_
  refine zz_iconst (v := 0) dX1_classesInside_2 (by decide) ?_
  refine zz_istore_n dX1_classesInside_3 (by decide) ?_
  exact l_classesInside hr hE hn n 0 (by omega)
end ZZ3
