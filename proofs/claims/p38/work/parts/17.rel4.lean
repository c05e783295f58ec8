section ZZ4
variable {El : Nat → Int32} {Lo Hi : Nat → Nat → Int64} {BL BH : Nat → Int64} {Od : Nat → Nat → Int32} {Ls : Nat → Int32} {nn : Int32} {T : zz_St}
theorem cpy_e {α : Type} {i : Nat} {g f : Nat → α} (h : g i = f i) : cpy (i + 1) g f = cpy i g f := by
  funext k
  unfold cpy
  by_cases h1 : k < i
  · have h2 : k < i + 1 := by omega
    simp [h1, h2]
  · by_cases h3 : k = i
    · subst h3; simp [h]
    · have h2 : ¬ k < i + 1 := by omega
      simp [h1, h2]
theorem zB_inj {a b : Bool} : zB a = zB b ↔ a = b := by cases a <;> cases b <;> decide
set_option maxHeartbeats 1000000 in
set_option maxRecDepth 20000 in
theorem l_closeI {Q : zz_Q} {A B : Nat → Int64} {t : Nat} (ht : t < 80) {r : Nat} (hr : r < 8) {n : Nat} (hE : El r = nI n) (hn : n ≤ 80) (K : zz_E mX1_closeUp none 2 0 0 Q 74 [(6, .int (nI n)), (4, .long (B t)), (2, .long (A t)), (1, .int (nI t)), (0, .ref r)] [] (px El (va_up Lo r (cpy n (cst A B A A t) A)) (va_up Hi r (cpy n (cst A B B B t) B)) BL BH Od Ls nn T)) : ∀ (m i : Nat), i + m = n → zz_E mX1_closeUp none 2 0 0 (Q) 26 [(6, .int (nI i)), (4, .long (B t)), (2, .long (A t)), (1, .int (nI t)), (0, .ref r)] [] (px El (va_up Lo r (cpy i (cst A B A A t) A)) (va_up Hi r (cpy i (cst A B B B t) B)) BL BH Od Ls nn T) := by
  intro m
  induction m with
  | zero =>
    intro i hi
    have hi : i = n := by omega
    subst hi
    refine zz_iload dX1_closeUp_26 rfl ?_
    refine zz_aload_n dX1_closeUp_28 rfl ?_
    refine zg_el zw_f_X1_9 dX1_closeUp_29 (by omega) ?_
    refine zz_icmp_ge (tgt := 74) dX1_closeUp_32 (by decide) (fun _ => ?_) (fun h => absurd (by rw [hE]; exact nI_le (by omega) (by omega)) h)
    exact K
  | succ m ih =>
    intro i hi
    refine zz_iload dX1_closeUp_26 rfl ?_
    refine zz_aload_n dX1_closeUp_28 rfl ?_
    refine zg_el zw_f_X1_9 dX1_closeUp_29 (by omega) ?_
    refine zz_icmp_ge (tgt := 74) dX1_closeUp_32 (by decide) (fun h => absurd h (by rw [hE]; exact nI_ge (by omega) (by omega))) (fun _ => ?_)
    refine zz_aload_n dX1_closeUp_35 rfl ?_
    refine zz_iload dX1_closeUp_36 rfl ?_
    refine zz_iload_n dX1_closeUp_38 rfl ?_
    refine zz_callV1 (ci := 1) (c_rholds hr (by omega) _) dX1_closeUp_39 zw_m_X1_73 wYX1_holds wDX1_holds rfl (by omega) (px_rel (by omega)) rfl (Nat.le_of_ble_eq_true rfl) (by decide) rfl ?_
    refine zz_if_eq (tgt := 68) dX1_closeUp_42 (by decide) (fun h42 => ?_) (fun h42 => ?_)
    · refine zz_iinc (v := nI (i + 1)) dX1_closeUp_68 rfl (nI_1 i) (by decide) ?_
      refine zz_goto (tgt := 26) dX1_closeUp_71 (by decide) ?_
      have h9 := ih (i + 1) (by omega)
      simp only [up_at, cpy_i] at h42
      first
        | (have e1 := zB_0.mp h42; rw [cpy_e (show cst A B A A t i = A i by unfold cst; rw [e1]; rfl), cpy_e (show cst A B B B t i = B i by unfold cst; rw [e1]; rfl)] at h9; exact h9)
        | (have e1 := zB_n.mp h42; rw [← cpy_s, ← cpy_s, show cst A B A A t i = A i ||| A t by unfold cst; rw [e1]; rfl, show cst A B B B t i = B i ||| B t by unfold cst; rw [e1]; rfl] at h9; simp only [up_at, up_up, cpy_i]; exact h9)
    · refine zz_aload_n dX1_closeUp_45 rfl ?_
      refine zz_iload dX1_closeUp_46 rfl ?_
      refine zz_aload_n dX1_closeUp_48 rfl ?_
      refine zz_iload dX1_closeUp_49 rfl ?_
      refine zz_callV1 (ci := 1) (c_lowAt hr (by omega)) dX1_closeUp_51 zw_m_X1_36 wYX1_lowAt wDX1_lowAt rfl (by omega) (px_rel (by omega)) rfl (Nat.le_of_ble_eq_true rfl) (by decide) rfl ?_
      refine zz_lload_n dX1_closeUp_54 rfl ?_
      refine zz_lor dX1_closeUp_55 ?_
      refine zz_aload_n dX1_closeUp_56 rfl ?_
      refine zz_iload dX1_closeUp_57 rfl ?_
      refine zz_callV1 (ci := 1) (c_highAt hr (by omega)) dX1_closeUp_59 zw_m_X1_43 wYX1_highAt wDX1_highAt rfl (by omega) (px_rel (by omega)) rfl (Nat.le_of_ble_eq_true rfl) (by decide) rfl ?_
      refine zz_lload dX1_closeUp_62 rfl ?_
      refine zz_lor dX1_closeUp_64 ?_
      refine zz_callV0 (ci := 1) (c_putWords hr (by omega) _ _) dX1_closeUp_65 zw_m_X1_48 wYX1_putWords wDX1_putWords rfl (by omega) (px_rel (by omega)) rfl (Nat.le_of_ble_eq_true rfl) (by decide) rfl ?_
      refine zz_iinc (v := nI (i + 1)) dX1_closeUp_68 rfl (nI_1 i) (by decide) ?_
      refine zz_goto (tgt := 26) dX1_closeUp_71 (by decide) ?_
      have h9 := ih (i + 1) (by omega)
      simp only [up_at, cpy_i] at h42
      first
        | (have e1 := zB_0.mp h42; rw [cpy_e (show cst A B A A t i = A i by unfold cst; rw [e1]; rfl), cpy_e (show cst A B B B t i = B i by unfold cst; rw [e1]; rfl)] at h9; exact h9)
        | (have e1 := zB_n.mp h42; rw [← cpy_s, ← cpy_s, show cst A B A A t i = A i ||| A t by unfold cst; rw [e1]; rfl, show cst A B B B t i = B i ||| B t by unfold cst; rw [e1]; rfl] at h9; simp only [up_at, up_up, cpy_i]; exact h9)
set_option maxHeartbeats 1000000 in
set_option maxRecDepth 20000 in
theorem l_closeO {r : Nat} (hr : r < 8) {n : Nat} (hE : El r = nI n) (hn : n ≤ 80) : ∀ (m i : Nat), i + m = n → zz_E mX1_closeUp none 2 0 0 (fun o τ => o = .inl none ∧ τ = px El (va_up Lo r (clP n (Lo r, Hi r) n).1) (va_up Hi r (clP n (Lo r, Hi r) n).2) BL BH Od Ls nn T) 2 [(1, .int (nI i)), (0, .ref r)] [] (px El (va_up Lo r (clP n (Lo r, Hi r) i).1) (va_up Hi r (clP n (Lo r, Hi r) i).2) BL BH Od Ls nn T) := by
  intro m
  induction m with
  | zero =>
    intro i hi
    have hi : i = n := by omega
    subst hi
    refine zz_iload_n dX1_closeUp_2 rfl ?_
    refine zz_aload_n dX1_closeUp_3 rfl ?_
    refine zg_el zw_f_X1_9 dX1_closeUp_4 (by omega) ?_
    refine zz_icmp_ge (tgt := 80) dX1_closeUp_7 (by decide) (fun _ => ?_) (fun h => absurd (by rw [hE]; exact nI_le (by omega) (by omega)) h)
    refine zz_vret dX1_closeUp_80 rfl ?_
    exact ⟨rfl, rfl⟩
  | succ m ih =>
    intro i hi
    refine zz_iload_n dX1_closeUp_2 rfl ?_
    refine zz_aload_n dX1_closeUp_3 rfl ?_
    refine zg_el zw_f_X1_9 dX1_closeUp_4 (by omega) ?_
    refine zz_icmp_ge (tgt := 80) dX1_closeUp_7 (by decide) (fun h => absurd h (by rw [hE]; exact nI_ge (by omega) (by omega))) (fun _ => ?_)
    refine zz_aload_n dX1_closeUp_10 rfl ?_
    refine zz_iload_n dX1_closeUp_11 rfl ?_
    refine zz_callV1 (ci := 1) (c_lowAt hr (by omega)) dX1_closeUp_12 zw_m_X1_36 wYX1_lowAt wDX1_lowAt rfl (by omega) (px_rel (by omega)) rfl (Nat.le_of_ble_eq_true rfl) (by decide) rfl ?_
    refine zz_lstore_n dX1_closeUp_15 (by decide) ?_
    refine zz_aload_n dX1_closeUp_16 rfl ?_
    refine zz_iload_n dX1_closeUp_17 rfl ?_
    refine zz_callV1 (ci := 1) (c_highAt hr (by omega)) dX1_closeUp_18 zw_m_X1_43 wYX1_highAt wDX1_highAt rfl (by omega) (px_rel (by omega)) rfl (Nat.le_of_ble_eq_true rfl) (by decide) rfl ?_
    refine zz_lstore dX1_closeUp_21 (by decide) ?_
    refine zz_iconst (v := 0) dX1_closeUp_23 (by decide) ?_
    refine zz_istore dX1_closeUp_24 (by decide) ?_
    have h9 := fun Q => l_closeI (Q := Q) (El := El) (Lo := Lo) (Hi := Hi) (BL := BL) (BH := BH) (Od := Od) (Ls := Ls) (nn := nn) (T := T) (A := (clP n (Lo r, Hi r) i).1) (B := (clP n (Lo r, Hi r) i).2) (t := i) (by omega) hr hE hn
    simp only [up_at]
    have h8 := fun Q K => h9 Q K n 0 (by omega)
    simp only [cpy_0] at h8
    refine h8 _ ?_
    refine zz_iinc (v := nI (i + 1)) dX1_closeUp_74 rfl (nI_1 i) (by decide) ?_
    refine zz_goto (tgt := 2) dX1_closeUp_77 (by decide) ?_
    refine zz_lvs (lv2 := [(1, .int (nI (i + 1))), (0, .ref r)]) (fun q hq => by simp only [List.mem_cons, List.not_mem_nil, or_false] at hq; rcases hq with rfl | rfl <;> simp [zz_up1, zz_up2, Value.category]) ?_
    exact ih (i + 1) (by omega)
set_option maxHeartbeats 1000000 in
set_option maxRecDepth 20000 in
theorem c_closeUp {r : Nat} (hr : r < 8) {n : Nat} (hE : El r = nI n) (hn : n ≤ 80) : zz_Dt mX1_closeUp 2 0 0 [.ref r] (px El Lo Hi BL BH Od Ls nn T) (.inl none) (px El (va_up Lo r (clP n (Lo r, Hi r) n).1) (va_up Hi r (clP n (Lo r, Hi r) n).2) BL BH Od Ls nn T) := by
  refine zz_start wPX1_closeUp rfl rfl (Nat.le_of_ble_eq_true rfl) ?_
  refine zz_iconst (v := 0) dX1_closeUp_0 (by decide) ?_
  refine zz_istore_n dX1_closeUp_1 (by decide) ?_
  have h9 := l_closeO (Lo := Lo) (Hi := Hi) (BL := BL) (BH := BH) (Od := Od) (Ls := Ls) (nn := nn) (T := T) hr hE hn n 0 (by omega)
  rw [show (clP n (Lo r, Hi r) 0).1 = Lo r from rfl, show (clP n (Lo r, Hi r) 0).2 = Hi r from rfl, up_self, up_self] at h9
  exact h9
set_option maxHeartbeats 1000000 in
set_option maxRecDepth 20000 in
theorem l_revI {Q : zz_Q} {P : (Nat → Int64) × (Nat → Int64)} {a : Nat} (ha : a < 80) {r : Nat} (hr : r < 8) (K : zz_E mX1_reverse none 3 0 0 Q 50 [(2, .int (nI a)), (1, .int (nI a)), (0, .ref r)] [] (px El (va_up Lo r (rvI P a a).1) (va_up Hi r (rvI P a a).2) BL BH Od Ls nn T)) : ∀ (m i : Nat), i + m = a → zz_E mX1_reverse none 3 0 0 (Q) 12 [(2, .int (nI i)), (1, .int (nI a)), (0, .ref r)] [] (px El (va_up Lo r (rvI P a i).1) (va_up Hi r (rvI P a i).2) BL BH Od Ls nn T) := by
  intro m
  induction m with
  | zero =>
    intro i hi
    have hi : i = a := by omega
    subst hi
    refine zz_iload_n dX1_reverse_12 rfl ?_
    refine zz_iload_n dX1_reverse_13 rfl ?_
    refine zz_icmp_ge (tgt := 50) dX1_reverse_14 (by decide) (fun _ => ?_) (fun h => absurd (nI_le (by omega) (by omega)) h)
    exact K
  | succ m ih =>
    intro i hi
    refine zz_iload_n dX1_reverse_12 rfl ?_
    refine zz_iload_n dX1_reverse_13 rfl ?_
    refine zz_icmp_ge (tgt := 50) dX1_reverse_14 (by decide) (fun h => absurd h (nI_ge (by omega) (by omega))) (fun _ => ?_)
    refine zz_aload_n dX1_reverse_17 rfl ?_
    refine zz_iload_n dX1_reverse_18 rfl ?_
    refine zz_iload_n dX1_reverse_19 rfl ?_
    refine zz_callV1 (ci := 1) (c_rholds hr ha _) dX1_reverse_20 zw_m_X1_73 wYX1_holds wDX1_holds rfl (by omega) (px_rel (by omega)) rfl (Nat.le_of_ble_eq_true rfl) (by decide) rfl ?_
    refine zz_aload_n dX1_reverse_23 rfl ?_
    refine zz_iload_n dX1_reverse_24 rfl ?_
    refine zz_iload_n dX1_reverse_25 rfl ?_
    refine zz_callV1 (ci := 1) (c_rholds hr (show i < 80 by omega) _) dX1_reverse_26 zw_m_X1_73 wYX1_holds wDX1_holds rfl (by omega) (px_rel (by omega)) rfl (Nat.le_of_ble_eq_true rfl) (by decide) rfl ?_
    refine zz_icmp_eq (tgt := 44) dX1_reverse_29 (by decide) (fun h29 => ?_) (fun h29 => ?_)
    · refine zz_iinc (v := nI (i + 1)) dX1_reverse_44 rfl (nI_1 i) (by decide) ?_
      refine zz_goto (tgt := 12) dX1_reverse_47 (by decide) ?_
      have h9 := ih (i + 1) (by omega)
      simp only [up_at] at h29
      rw [zB_inj] at h29
      first
        | (rw [show rvI P a (i + 1) = rvI P a i from if_pos h29] at h9; exact h9)
        | (rw [show rvI P a (i + 1) = _ from if_neg h29] at h9; simp only [up_at, up_up]; exact h9)
    · refine zz_aload_n dX1_reverse_32 rfl ?_
      refine zz_iload_n dX1_reverse_33 rfl ?_
      refine zz_iload_n dX1_reverse_34 rfl ?_
      refine zz_callV0 (ci := 1) (c_swapPair hr ha _) dX1_reverse_35 zw_m_X1_90 wYX1_swapPair wDX1_swapPair rfl (by omega) (px_rel (by omega)) rfl (Nat.le_of_ble_eq_true rfl) (by decide) rfl ?_
      refine zz_aload_n dX1_reverse_38 rfl ?_
      refine zz_iload_n dX1_reverse_39 rfl ?_
      refine zz_iload_n dX1_reverse_40 rfl ?_
      refine zz_callV0 (ci := 1) (c_swapPair hr (show i < 80 by omega) _) dX1_reverse_41 zw_m_X1_90 wYX1_swapPair wDX1_swapPair rfl (by omega) (px_rel (by omega)) rfl (Nat.le_of_ble_eq_true rfl) (by decide) rfl ?_
      refine zz_iinc (v := nI (i + 1)) dX1_reverse_44 rfl (nI_1 i) (by decide) ?_
      refine zz_goto (tgt := 12) dX1_reverse_47 (by decide) ?_
      have h9 := ih (i + 1) (by omega)
      simp only [up_at] at h29
      rw [zB_inj] at h29
      first
        | (rw [show rvI P a (i + 1) = rvI P a i from if_pos h29] at h9; exact h9)
        | (rw [show rvI P a (i + 1) = _ from if_neg h29] at h9; simp only [up_at, up_up]; exact h9)
set_option maxHeartbeats 1000000 in
set_option maxRecDepth 20000 in
theorem l_revO {r : Nat} (hr : r < 8) {n : Nat} (hE : El r = nI n) (hn : n ≤ 80) : ∀ (m i : Nat), i + m = n → zz_E mX1_reverse none 3 0 0 (fun o τ => o = .inl none ∧ τ = px El (va_up Lo r (rvO (Lo r, Hi r) n).1) (va_up Hi r (rvO (Lo r, Hi r) n).2) BL BH Od Ls nn T) 2 [(1, .int (nI i)), (0, .ref r)] [] (px El (va_up Lo r (rvO (Lo r, Hi r) i).1) (va_up Hi r (rvO (Lo r, Hi r) i).2) BL BH Od Ls nn T) := by
  intro m
  induction m with
  | zero =>
    intro i hi
    have hi : i = n := by omega
    subst hi
    refine zz_iload_n dX1_reverse_2 rfl ?_
    refine zz_aload_n dX1_reverse_3 rfl ?_
    refine zg_el zw_f_X1_9 dX1_reverse_4 (by omega) ?_
    refine zz_icmp_ge (tgt := 56) dX1_reverse_7 (by decide) (fun _ => ?_) (fun h => absurd (by rw [hE]; exact nI_le (by omega) (by omega)) h)
    refine zz_vret dX1_reverse_56 rfl ?_
    exact ⟨rfl, rfl⟩
  | succ m ih =>
    intro i hi
    refine zz_iload_n dX1_reverse_2 rfl ?_
    refine zz_aload_n dX1_reverse_3 rfl ?_
    refine zg_el zw_f_X1_9 dX1_reverse_4 (by omega) ?_
    refine zz_icmp_ge (tgt := 56) dX1_reverse_7 (by decide) (fun h => absurd h (by rw [hE]; exact nI_ge (by omega) (by omega))) (fun _ => ?_)
    refine zz_iconst (v := 0) dX1_reverse_10 (by decide) ?_
    refine zz_istore_n dX1_reverse_11 (by decide) ?_
    refine l_revI (P := rvO (Lo r, Hi r) i) (a := i) (by omega) hr ?_ i 0 (by omega)
    refine zz_iinc (v := nI (i + 1)) dX1_reverse_50 rfl (nI_1 i) (by decide) ?_
    refine zz_goto (tgt := 2) dX1_reverse_53 (by decide) ?_
    refine zz_lvs (lv2 := [(1, .int (nI (i + 1))), (0, .ref r)]) (fun q hq => by simp only [List.mem_cons, List.not_mem_nil, or_false] at hq; rcases hq with rfl | rfl <;> simp [zz_up1, zz_up2, Value.category]) ?_
    exact ih (i + 1) (by omega)
set_option maxHeartbeats 1000000 in
set_option maxRecDepth 20000 in
theorem c_reverse {r : Nat} (hr : r < 8) {n : Nat} (hE : El r = nI n) (hn : n ≤ 80) (h1 : 1 ≤ n) : zz_Dt mX1_reverse 3 0 0 [.ref r] (px El Lo Hi BL BH Od Ls nn T) (.inl none) (px El (va_up Lo r (rvO (Lo r, Hi r) n).1) (va_up Hi r (rvO (Lo r, Hi r) n).2) BL BH Od Ls nn T) := by
  refine zz_start wPX1_reverse rfl rfl (Nat.le_of_ble_eq_true rfl) ?_
  refine zz_iconst (v := 1) dX1_reverse_0 (by decide) ?_
  refine zz_istore_n dX1_reverse_1 (by decide) ?_
  have h9 := l_revO (Lo := Lo) (Hi := Hi) (BL := BL) (BH := BH) (Od := Od) (Ls := Ls) (nn := nn) (T := T) hr hE hn (n - 1) 1 (by omega)
  rw [show (rvO (Lo r, Hi r) 1).1 = Lo r from rfl, show (rvO (Lo r, Hi r) 1).2 = Hi r from rfl, up_self, up_self] at h9
  exact h9
set_option maxHeartbeats 1000000 in
set_option maxRecDepth 20000 in
theorem l_evI {r : Nat} (hr : r < 8) {n : Nat} (hE : El r = nI n) (hn : n ≤ 80) {w : Nat} (hw : w < 6) {a : Nat} (ha : a < n) (K : alb (fun b => ftz (nI w) (hld (Lo r a) (Hi r a) (nI b)) (hld (Lo r b) (Hi r b) (nI a))) a = true → zz_E mX1_everyTwoAre none 2 0 0 (fun o τ => o = .inl (some (.int (zB (alb (fun a => alb (fun b => ftz (nI w) (hld (Lo r a) (Hi r a) (nI b)) (hld (Lo r b) (Hi r b) (nI a))) a) n)))) ∧ τ = px El Lo Hi BL BH Od Ls nn T) 44 [(3, .int (nI a)), (2, .int (nI a)), (0, .ref r), (1, .int (nI w))] [] (px El Lo Hi BL BH Od Ls nn T)) : ∀ (m i : Nat), i + m = a → alb (fun b => ftz (nI w) (hld (Lo r a) (Hi r a) (nI b)) (hld (Lo r b) (Hi r b) (nI a))) i = true → zz_E mX1_everyTwoAre none 2 0 0 (fun o τ => o = .inl (some (.int (zB (alb (fun a => alb (fun b => ftz (nI w) (hld (Lo r a) (Hi r a) (nI b)) (hld (Lo r b) (Hi r b) (nI a))) a) n)))) ∧ τ = px El Lo Hi BL BH Od Ls nn T) 12 [(3, .int (nI i)), (2, .int (nI a)), (0, .ref r), (1, .int (nI w))] [] (px El Lo Hi BL BH Od Ls nn T) := by
  intro m
  induction m with
  | zero =>
    intro i hi ht
    have hi : i = a := by omega
    subst hi
    refine zz_iload_n dX1_everyTwoAre_12 rfl ?_
    refine zz_iload_n dX1_everyTwoAre_13 rfl ?_
    refine zz_icmp_ge (tgt := 44) dX1_everyTwoAre_14 (by decide) (fun _ => ?_) (fun h => absurd (nI_le (by omega) (by omega)) h)
    exact K ht
  | succ m ih =>
    intro i hi ht
    refine zz_iload_n dX1_everyTwoAre_12 rfl ?_
    refine zz_iload_n dX1_everyTwoAre_13 rfl ?_
    refine zz_icmp_ge (tgt := 44) dX1_everyTwoAre_14 (by decide) (fun h => absurd h (nI_ge (by omega) (by omega))) (fun _ => ?_)
    refine zz_iload_n dX1_everyTwoAre_17 rfl ?_
    refine zz_aload_n dX1_everyTwoAre_18 rfl ?_
    refine zz_iload_n dX1_everyTwoAre_19 rfl ?_
    refine zz_iload_n dX1_everyTwoAre_20 rfl ?_
    refine zz_callV1 (ci := 1) (c_rholds hr (show a < 80 by omega) _) dX1_everyTwoAre_21 zw_m_X1_73 wYX1_holds wDX1_holds rfl (by omega) (px_rel (by omega)) rfl (Nat.le_of_ble_eq_true rfl) (by decide) rfl ?_
    refine zz_aload_n dX1_everyTwoAre_24 rfl ?_
    refine zz_iload_n dX1_everyTwoAre_25 rfl ?_
    refine zz_iload_n dX1_everyTwoAre_26 rfl ?_
    refine zz_callV1 (ci := 1) (c_rholds hr (show i < 80 by omega) _) dX1_everyTwoAre_27 zw_m_X1_73 wYX1_holds wDX1_holds rfl (by omega) (px_rel (by omega)) rfl (Nat.le_of_ble_eq_true rfl) (by decide) rfl ?_
    refine zz_callS1 (c_fits hw _ _) dX1_everyTwoAre_30 zw_m_X1_103 wYX1_fits wDX1_fits rfl (Nat.le_of_ble_eq_true rfl) (by decide) rfl ?_
    refine zz_if_ne (tgt := 38) dX1_everyTwoAre_33 (by decide) (fun h33 => ?_) (fun h33 => ?_)
    · refine zz_iinc (v := nI (i + 1)) dX1_everyTwoAre_38 rfl (nI_1 i) (by decide) ?_
      refine zz_goto (tgt := 12) dX1_everyTwoAre_41 (by decide) ?_
      refine ih (i + 1) (by omega) ?_
      show (alb _ i && _) = true
      rw [ht, Bool.true_and]
      exact zB_n.mp h33
    · refine zz_iconst (v := 0) dX1_everyTwoAre_36 (by decide) ?_
      refine zz_zret dX1_everyTwoAre_37 rfl (by first | rfl | exact zB_nar _) ?_
      refine ⟨?_, rfl⟩
      rw [alb_f (f := fun a => alb (fun b => ftz (nI w) (hld (Lo r a) (Hi r a) (nI b)) (hld (Lo r b) (Hi r b) (nI a))) a) (i := a) ha (alb_f (i := i) (by omega) (zB_0.mp h33))]
      rfl
set_option maxHeartbeats 1000000 in
set_option maxRecDepth 20000 in
theorem l_evO {r : Nat} (hr : r < 8) {n : Nat} (hE : El r = nI n) (hn : n ≤ 80) {w : Nat} (hw : w < 6) : ∀ (m i : Nat), i + m = n → alb (fun a => alb (fun b => ftz (nI w) (hld (Lo r a) (Hi r a) (nI b)) (hld (Lo r b) (Hi r b) (nI a))) a) i = true → zz_E mX1_everyTwoAre none 2 0 0 (fun o τ => o = .inl (some (.int (zB (alb (fun a => alb (fun b => ftz (nI w) (hld (Lo r a) (Hi r a) (nI b)) (hld (Lo r b) (Hi r b) (nI a))) a) n)))) ∧ τ = px El Lo Hi BL BH Od Ls nn T) 2 [(2, .int (nI i)), (0, .ref r), (1, .int (nI w))] [] (px El Lo Hi BL BH Od Ls nn T) := by
  intro m
  induction m with
  | zero =>
    intro i hi ht
    have hi : i = n := by omega
    subst hi
    refine zz_iload_n dX1_everyTwoAre_2 rfl ?_
    refine zz_aload_n dX1_everyTwoAre_3 rfl ?_
    refine zg_el zw_f_X1_9 dX1_everyTwoAre_4 (by omega) ?_
    refine zz_icmp_ge (tgt := 50) dX1_everyTwoAre_7 (by decide) (fun _ => ?_) (fun h => absurd (by rw [hE]; exact nI_le (by omega) (by omega)) h)
    refine zz_iconst (v := 1) dX1_everyTwoAre_50 (by decide) ?_
    refine zz_zret dX1_everyTwoAre_51 rfl (by first | rfl | exact zB_nar _) ?_
    exact ⟨by rw [ht]; rfl, rfl⟩
  | succ m ih =>
    intro i hi ht
    refine zz_iload_n dX1_everyTwoAre_2 rfl ?_
    refine zz_aload_n dX1_everyTwoAre_3 rfl ?_
    refine zg_el zw_f_X1_9 dX1_everyTwoAre_4 (by omega) ?_
    refine zz_icmp_ge (tgt := 50) dX1_everyTwoAre_7 (by decide) (fun h => absurd h (by rw [hE]; exact nI_ge (by omega) (by omega))) (fun _ => ?_)
    refine zz_iconst (v := 0) dX1_everyTwoAre_10 (by decide) ?_
    refine zz_istore_n dX1_everyTwoAre_11 (by decide) ?_
    refine l_evI hr hE hn hw (a := i) (by omega) (fun hb => ?_) i 0 (by omega) rfl
    refine zz_iinc (v := nI (i + 1)) dX1_everyTwoAre_44 rfl (nI_1 i) (by decide) ?_
    refine zz_goto (tgt := 2) dX1_everyTwoAre_47 (by decide) ?_
    refine zz_lvs (lv2 := [(2, .int (nI (i + 1))), (0, .ref r), (1, .int (nI w))]) (fun q hq => by simp only [List.mem_cons, List.not_mem_nil, or_false] at hq; rcases hq with rfl | rfl | rfl <;> simp [zz_up1, zz_up2, Value.category]) ?_
    refine ih (i + 1) (by omega) ?_
    show (alb _ i && _) = true
    rw [ht, Bool.true_and]
    exact hb
set_option maxHeartbeats 1000000 in
set_option maxRecDepth 20000 in
theorem c_everyTwoAre {r : Nat} (hr : r < 8) {n : Nat} (hE : El r = nI n) (hn : n ≤ 80) {w : Nat} (hw : w < 6) (h1 : 1 ≤ n) : zz_Dt mX1_everyTwoAre 2 0 0 [.ref r, .int (nI w)] (px El Lo Hi BL BH Od Ls nn T) (.inl (some (.int (zB (alb (fun a => alb (fun b => ftz (nI w) (hld (Lo r a) (Hi r a) (nI b)) (hld (Lo r b) (Hi r b) (nI a))) a) n))))) (px El Lo Hi BL BH Od Ls nn T) := by
  refine zz_start wPX1_everyTwoAre rfl rfl (Nat.le_of_ble_eq_true rfl) ?_
  refine zz_iconst (v := 1) dX1_everyTwoAre_0 (by decide) ?_
  refine zz_istore_n dX1_everyTwoAre_1 (by decide) ?_
  exact l_evO hr hE hn hw (n - 1) 1 (by omega) rfl
end ZZ4
