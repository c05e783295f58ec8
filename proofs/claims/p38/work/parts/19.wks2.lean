section ZZ6
variable {El : Nat → Int32} {Lo Hi : Nat → Nat → Int64} {BL BH : Nat → Int64} {Od : Nat → Nat → Int32} {Ls : Nat → Int32} {nn : Int32} {T : zz_St}
set_option maxHeartbeats 1000000 in
set_option maxRecDepth 20000 in
theorem l_reach {w : Nat} (hw : w < 2) {r : Nat} (hr : r < 8) {n : Nat} (hE : El r = nI n) (hn : n ≤ 80) (hcl : cln (Lo r) (Hi r) n) {j : Nat} (hj : j < n) {p : Nat} (hp : 24 ≤ p ∧ p < 46) (hpw : p < 34 + 5 * w ∨ 39 + 5 * w ≤ p) : ∀ (m i : Nat), i + m = n → ∀ (B C : Nat → Int64), frW w BL B → frW w BH C → (B (35 + 5 * w), C (35 + 5 * w), B (34 + 5 * w), C (34 + 5 * w)) = gIt (Lo r) (Hi r) (Lo r j, Hi r j, Lo r j, Hi r j) i → zz_E mX3_reachFrom none 5 0 0 (fun o τ => o = .inl none ∧ ∃ B C, frW w BL B ∧ frW w BH C ∧ τ = px El Lo Hi (va_up B p (gIt (Lo r) (Hi r) (Lo r j, Hi r j, Lo r j, Hi r j) n).2.2.1) (va_up C p (gIt (Lo r) (Hi r) (Lo r j, Hi r j, Lo r j, Hi r j) n).2.2.2) Od Ls nn T) 15 [(5, .int (nI i + 1)), (4, .int (nI n)), (0, .ref (49 + w)), (1, .ref r), (2, .int (nI j)), (3, .ref p)] [] (px El Lo Hi B C Od Ls nn T) := by
  intro m
  induction m with
  | zero =>
    intro i hi B C hB hC hat
    have hi : i = n := by omega
    subst hi
    have a3 : B (34 + 5 * w) = (gIt (Lo r) (Hi r) (Lo r j, Hi r j, Lo r j, Hi r j) i).2.2.1 := congrArg (fun q : q4 => q.2.2.1) hat
    have a4 : C (34 + 5 * w) = (gIt (Lo r) (Hi r) (Lo r j, Hi r j, Lo r j, Hi r j) i).2.2.2 := congrArg (fun q : q4 => q.2.2.2) hat
    refine zz_iload dX3_reachFrom_15 rfl ?_
    refine zz_iload dX3_reachFrom_17 rfl ?_
    refine zz_icmp_gt (tgt := 43) dX3_reachFrom_19 (by decide) (fun _ => ?_) (fun h => absurd (by rw [nI_1]; exact nI_lt (by omega) (by omega)) h)
    refine zz_aload_n dX3_reachFrom_43 rfl ?_
    refine zz_aload_n dX3_reachFrom_44 rfl ?_
    refine zz_get (ci := 3) (j := 0) zz_inX3 rfl zw_f_X3_12 rfl (by decide) dX3_reachFrom_45 (by omega) (px_wk (by omega)) rfl ?_
    refine zz_callV0 (ci := 0) (c_become hp (by omega)) dX3_reachFrom_48 zw_m_X3_56 wYX0_become wDX0_become rfl (by omega) (px_bit (by omega)) rfl (Nat.le_of_ble_eq_true rfl) (by decide) rfl ?_
    refine zz_vret dX3_reachFrom_51 rfl ?_
    exact ⟨rfl, B, C, hB, hC, by rw [a3, a4]⟩
  | succ m ih =>
    intro i hi B C hB hC hat
    have a1 : B (35 + 5 * w) = (gIt (Lo r) (Hi r) (Lo r j, Hi r j, Lo r j, Hi r j) i).1 := congrArg (fun q : q4 => q.1) hat
    have a2 : C (35 + 5 * w) = (gIt (Lo r) (Hi r) (Lo r j, Hi r j, Lo r j, Hi r j) i).2.1 := congrArg (fun q : q4 => q.2.1) hat
    have a3 : B (34 + 5 * w) = (gIt (Lo r) (Hi r) (Lo r j, Hi r j, Lo r j, Hi r j) i).2.2.1 := congrArg (fun q : q4 => q.2.2.1) hat
    have a4 : C (34 + 5 * w) = (gIt (Lo r) (Hi r) (Lo r j, Hi r j, Lo r j, Hi r j) i).2.2.2 := congrArg (fun q : q4 => q.2.2.2) hat
    refine zz_iload dX3_reachFrom_15 rfl ?_
    refine zz_iload dX3_reachFrom_17 rfl ?_
    refine zz_icmp_gt (tgt := 43) dX3_reachFrom_19 (by decide) (fun h => absurd h (by rw [nI_1]; exact nI_nlt (by omega) (by omega))) (fun _ => ?_)
    refine zz_aload_n dX3_reachFrom_22 rfl ?_
    refine zz_get (ci := 3) (j := 1) zz_inX3 rfl zw_f_X3_18 rfl (by decide) dX3_reachFrom_23 (by omega) (px_wk (by omega)) rfl ?_
    refine zz_callV1 (ci := 0) (c_isEmpty (by omega)) dX3_reachFrom_26 zw_m_X3_52 wYX0_isEmpty wDX0_isEmpty rfl (by omega) (px_bit (by omega)) rfl (Nat.le_of_ble_eq_true rfl) (by decide) rfl ?_
    refine zz_if_ne (tgt := 43) dX3_reachFrom_29 (by decide) (fun h29 => ?_) (fun h29 => ?_)
    · refine zz_aload_n dX3_reachFrom_43 rfl ?_
      refine zz_aload_n dX3_reachFrom_44 rfl ?_
      refine zz_get (ci := 3) (j := 0) zz_inX3 rfl zw_f_X3_12 rfl (by decide) dX3_reachFrom_45 (by omega) (px_wk (by omega)) rfl ?_
      refine zz_callV0 (ci := 0) (c_become hp (by omega)) dX3_reachFrom_48 zw_m_X3_56 wYX0_become wDX0_become rfl (by omega) (px_bit (by omega)) rfl (Nat.le_of_ble_eq_true rfl) (by decide) rfl ?_
      refine zz_vret dX3_reachFrom_51 rfl ?_
      have z := zB_n.mp h29
      rw [a1, a2, Bool.and_eq_true, decide_eq_true_iff, decide_eq_true_iff] at z
      have z2 := (gIt_stop z n (by omega)).2.2
      exact ⟨rfl, B, C, hB, hC, by rw [a3, a4, ← z2]⟩
    · refine zz_aload_n dX3_reachFrom_32 rfl ?_
      refine zz_aload_n dX3_reachFrom_33 rfl ?_
      refine zz_callV0 (ci := 3) (c_goOn hw hr hE hn (by have q := gIt_cl hcl (s := (Lo r j, Hi r j, Lo r j, Hi r j)) (fun k hk => hcl j hj k hk) i; rw [← hat] at q; exact q)) dX3_reachFrom_34 zw_m_X3_48 wYX3_goOn wDX3_goOn rfl (by omega) (px_wk (by omega)) rfl (Nat.le_of_ble_eq_true rfl) (by decide) rfl ?_
      refine zz_iinc (v := nI (i + 1) + 1) dX3_reachFrom_37 rfl (by rw [← nI_1 i]; rfl) (by decide) ?_
      refine zz_goto (tgt := 15) dX3_reachFrom_40 (by decide) ?_
      have e1 : 34 + 5 * w ≠ 35 + 5 * w := by omega
      have e2 : 35 + 5 * w ≠ 34 + 5 * w := by omega
      refine ih (i + 1) (by omega) _ _ (frW_u (frW_u hB (by omega) _) (by omega) _) (frW_u (frW_u hC (by omega) _) (by omega) _) ?_
      simp only [up_at, up_ne _ _ e1, up_ne _ _ e2, hat]
      rfl
set_option maxHeartbeats 1000000 in
set_option maxRecDepth 20000 in
theorem c_reachFrom {w : Nat} (hw : w < 2) {r : Nat} (hr : r < 8) {n : Nat} (hE : El r = nI n) (hn : n ≤ 80) (hcl : cln (Lo r) (Hi r) n) {j : Nat} (hj : j < n) {p : Nat} (hp : 24 ≤ p ∧ p < 46) (hpw : p < 34 + 5 * w ∨ 39 + 5 * w ≤ p) : zz_C mX3_reachFrom 5 0 0 [.ref (49 + w), .ref r, .int (nI j), .ref p] (px El Lo Hi BL BH Od Ls nn T) (fun o τ => o = .inl none ∧ ∃ B C, frW w BL B ∧ frW w BH C ∧ τ = px El Lo Hi (va_up B p (gIt (Lo r) (Hi r) (Lo r j, Hi r j, Lo r j, Hi r j) n).2.2.1) (va_up C p (gIt (Lo r) (Hi r) (Lo r j, Hi r j, Lo r j, Hi r j) n).2.2.2) Od Ls nn T) := by
  refine zz_start wPX3_reachFrom rfl rfl (Nat.le_of_ble_eq_true rfl) ?_
  refine zz_aload_n dX3_reachFrom_0 rfl ?_
  refine zz_callV1 (ci := 1) (c_elementsInside hr) dX3_reachFrom_1 zw_m_X3_34 wYX1_elementsInside wDX1_elementsInside rfl (by omega) (px_rel (by omega)) rfl (Nat.le_of_ble_eq_true rfl) (by decide) rfl ?_
  refine zz_istore dX3_reachFrom_4 (by decide) ?_
  refine zz_aload_n dX3_reachFrom_6 rfl ?_
  refine zz_aload_n dX3_reachFrom_7 rfl ?_
  refine zz_iload_n dX3_reachFrom_8 rfl ?_
  refine zz_callV0 (ci := 3) (c_leave hw hr (show j < 80 by omega)) dX3_reachFrom_9 zw_m_X3_40 wYX3_leave wDX3_leave rfl (by omega) (px_wk (by omega)) rfl (Nat.le_of_ble_eq_true rfl) (by decide) rfl ?_
  refine zz_iconst (v := 1) dX3_reachFrom_12 (by decide) ?_
  refine zz_istore dX3_reachFrom_13 (by decide) ?_
  rw [hE]
  refine l_reach hw hr hE hn hcl hj hp hpw n 0 (by omega) _ _ (frW_u (frW_u (frW_r w BL) (by omega) _) (by omega) _) (frW_u (frW_u (frW_r w BH) (by omega) _) (by omega) _) ?_
  have e1 : 34 + 5 * w ≠ 35 + 5 * w := by omega
  have e2 : 35 + 5 * w ≠ 34 + 5 * w := by omega
  simp only [up_at, up_ne _ _ e1, up_ne _ _ e2]
  rfl
/-- all elements below n -/
def alW (n : Nat) : Int64 × Int64 := (lwR (nI 0) (nI n), hgR (nI 0) (nI n))
theorem alW_cl {n : Nat} (hn : n ≤ 80) : cl2 (alW n).1 (alW n).2 n := cl2_rng (by omega) (by omega)
theorem w_0or (x : Int64) : 0 ||| x = x := w_ext (fun j _ => by rw [w_or, w_0, Bool.false_or])
set_option maxHeartbeats 1000000 in
set_option maxRecDepth 20000 in
theorem l_longest {w : Nat} (hw : w < 2) {r : Nat} (hr : r < 8) {n : Nat} (hE : El r = nI n) (hn : n ≤ 80) (hcl : cln (Lo r) (Hi r) n) (v : Nat) : ∀ (m i : Nat), i + m = n → ∀ (B C : Nat → Int64), frW w BL B → frW w BH C → (B (35 + 5 * w), C (35 + 5 * w)) = lIt (Lo r) (Hi r) (alW n) i → ff (fun s => emp (lIt (Lo r) (Hi r) (alW n) (s + 1))) m i = v → zz_E mX3_longest none 4 0 0 (fun o τ => o = .inl (some (.int (if v = n then -1 else nI v))) ∧ ∃ B C, frW w BL B ∧ frW w BH C ∧ τ = px El Lo Hi B C Od Ls nn T) 24 [(3, .int (nI i)), (2, .int (nI n)), (0, .ref (49 + w)), (1, .ref r)] [] (px El Lo Hi B C Od Ls nn T) := by
  intro m
  induction m with
  | zero =>
    intro i hi B C hB hC hat hv
    have hi : i = n := by omega
    subst hi
    have hv : i = v := hv
    subst hv
    refine zz_iload_n dX3_longest_24 rfl ?_
    refine zz_iload_n dX3_longest_25 rfl ?_
    refine zz_icmp_ge (tgt := 59) dX3_longest_26 (by decide) (fun _ => ?_) (fun h => absurd (nI_le (by omega) (by omega)) h)
    refine zz_iconst (v := (-1)) dX3_longest_59 (by decide) ?_
    refine zz_iret dX3_longest_60 rfl ?_
    exact ⟨by rw [if_pos rfl], B, C, hB, hC, rfl⟩
  | succ m ih =>
    intro i hi B C hB hC hat hv
    have a1 : B (35 + 5 * w) = (lIt (Lo r) (Hi r) (alW n) i).1 := congrArg (fun q => q.1) hat
    have a2 : C (35 + 5 * w) = (lIt (Lo r) (Hi r) (alW n) i).2 := congrArg (fun q => q.2) hat
    refine zz_iload_n dX3_longest_24 rfl ?_
    refine zz_iload_n dX3_longest_25 rfl ?_
    refine zz_icmp_ge (tgt := 59) dX3_longest_26 (by decide) (fun h => absurd h (nI_ge (by omega) (by omega))) (fun _ => ?_)
    refine zz_aload_n dX3_longest_29 rfl ?_
    refine zz_aload_n dX3_longest_30 rfl ?_
    refine zz_get (ci := 3) (j := 1) zz_inX3 rfl zw_f_X3_18 rfl (by decide) dX3_longest_31 (by omega) (px_wk (by omega)) rfl ?_
    refine zz_aload_n dX3_longest_34 rfl ?_
    refine zz_get (ci := 3) (j := 1) zz_inX3 rfl zw_f_X3_18 rfl (by decide) dX3_longest_35 (by omega) (px_wk (by omega)) rfl ?_
    refine zz_callV0 (ci := 1) (c_imageOf hr hE hn (p := 35 + 5 * w) (by omega) (q := 35 + 5 * w) (by omega) (by have q := lIt_cl hcl (s := alW n) (alW_cl hn) i; rw [← hat] at q; exact q)) dX3_longest_38 zw_m_X3_64 wYX1_imageOf wDX1_imageOf rfl (by omega) (px_rel (by omega)) rfl (Nat.le_of_ble_eq_true rfl) (by decide) rfl ?_
    refine zz_aload_n dX3_longest_41 rfl ?_
    refine zz_get (ci := 3) (j := 1) zz_inX3 rfl zw_f_X3_18 rfl (by decide) dX3_longest_42 (by omega) (px_wk (by omega)) rfl ?_
    refine zz_callV1 (ci := 0) (c_isEmpty (by omega)) dX3_longest_45 zw_m_X3_52 wYX0_isEmpty wDX0_isEmpty rfl (by omega) (px_bit (by omega)) rfl (Nat.le_of_ble_eq_true rfl) (by decide) rfl ?_
    refine zz_if_eq (tgt := 53) dX3_longest_48 (by decide) (fun h48 => ?_) (fun h48 => ?_)
    · refine zz_iinc (v := nI (i + 1)) dX3_longest_53 rfl (nI_1 i) (by decide) ?_
      refine zz_goto (tgt := 24) dX3_longest_56 (by decide) ?_
      simp only [up_at, a1, a2] at h48
      refine ih (i + 1) (by omega) _ _ (frW_u hB (by omega) _) (frW_u hC (by omega) _) ?_ ?_
      · simp only [up_at, a1, a2]
        rfl
      · rw [← hv, ff_f (f := fun s => emp (lIt (Lo r) (Hi r) (alW n) (s + 1))) (zB_0.mp h48)]
    · refine zz_iload_n dX3_longest_51 rfl ?_
      refine zz_iret dX3_longest_52 rfl ?_
      simp only [up_at, a1, a2] at h48
      have hv : i = v := by rw [← hv, ff_t (f := fun s => emp (lIt (Lo r) (Hi r) (alW n) (s + 1))) (zB_n.mp h48)]
      subst hv
      exact ⟨by rw [if_neg (by omega)], _, _, frW_u hB (by omega) _, frW_u hC (by omega) _, rfl⟩
set_option maxHeartbeats 1000000 in
set_option maxRecDepth 20000 in
theorem c_longest {w : Nat} (hw : w < 2) {r : Nat} (hr : r < 8) {n : Nat} (hE : El r = nI n) (hn : n ≤ 80) (hcl : cln (Lo r) (Hi r) n) : zz_C mX3_longest 4 0 0 [.ref (49 + w), .ref r] (px El Lo Hi BL BH Od Ls nn T) (fun o τ => o = .inl (some (.int (if ff (fun s => emp (lIt (Lo r) (Hi r) (alW n) (s + 1))) n 0 = n then -1 else nI (ff (fun s => emp (lIt (Lo r) (Hi r) (alW n) (s + 1))) n 0)))) ∧ ∃ B C, frW w BL B ∧ frW w BH C ∧ τ = px El Lo Hi B C Od Ls nn T) := by
  refine zz_start wPX3_longest rfl rfl (Nat.le_of_ble_eq_true rfl) ?_
  refine zz_aload_n dX3_longest_0 rfl ?_
  refine zz_callV1 (ci := 1) (c_elementsInside hr) dX3_longest_1 zw_m_X3_34 wYX1_elementsInside wDX1_elementsInside rfl (by omega) (px_rel (by omega)) rfl (Nat.le_of_ble_eq_true rfl) (by decide) rfl ?_
  refine zz_istore_n dX3_longest_4 (by decide) ?_
  refine zz_aload_n dX3_longest_5 rfl ?_
  refine zz_get (ci := 3) (j := 1) zz_inX3 rfl zw_f_X3_18 rfl (by decide) dX3_longest_6 (by omega) (px_wk (by omega)) rfl ?_
  refine zz_callV0 (ci := 0) (c_clear (by omega)) dX3_longest_9 zw_m_X3_74 wYX0_clear wDX0_clear rfl (by omega) (px_bit (by omega)) rfl (Nat.le_of_ble_eq_true rfl) (by decide) rfl ?_
  refine zz_aload_n dX3_longest_12 rfl ?_
  refine zz_get (ci := 3) (j := 1) zz_inX3 rfl zw_f_X3_18 rfl (by decide) dX3_longest_13 (by omega) (px_wk (by omega)) rfl ?_
  refine zz_iconst (v := 0) dX3_longest_16 (by decide) ?_
  refine zz_iload_n dX3_longest_17 rfl ?_
  refine zz_iconst (v := 1) dX3_longest_18 (by decide) ?_
  refine zz_callV0 (ci := 0) (c_putRange (by omega) 0 (El r) true) dX3_longest_19 zw_m_X3_77 wYX0_putRange wDX0_putRange rfl (by omega) (px_bit (by omega)) rfl (Nat.le_of_ble_eq_true rfl) (by decide) rfl ?_
  refine zz_iconst (v := 0) dX3_longest_22 (by decide) ?_
  refine zz_istore_n dX3_longest_23 (by decide) ?_
  rw [hE]
  refine l_longest hw hr hE hn hcl _ n 0 (by omega) _ _ (frW_u (frW_u (frW_r w BL) (by omega) _) (by omega) _) (frW_u (frW_u (frW_r w BH) (by omega) _) (by omega) _) ?_ rfl
  simp only [up_at, up_up, reduceIte, w_0or]
  rfl
set_option maxHeartbeats 1000000 in
set_option maxRecDepth 20000 in
theorem l_findOrder {w : Nat} (hw : w < 2) {r : Nat} (hr : r < 8) {n : Nat} (hE : El r = nI n) (hn : n ≤ 80) (hcl : cln (Lo r) (Hi r) n) : ∀ (m i : Nat), i + m = n → ∀ (B C : Nat → Int64), frW w BL B → frW w BH C → ∀ (O : Nat → Nat → Int32), (∀ p, p ≠ 46 + w → O p = Od p) → (∀ j, j < i → O (46 + w) j = nxO (Lo r) (Hi r) (lfO (Lo r) (Hi r) (alW n) j)) → (B (36 + 5 * w), C (36 + 5 * w)) = lfO (Lo r) (Hi r) (alW n) i → alb (fun i => decide (¬ nxO (Lo r) (Hi r) (lfO (Lo r) (Hi r) (alW n) i) = -1)) i = true → zz_E mX3_findOrder none 4 0 0 (fun o τ => o = .inl (some (.int (zB (alb (fun i => decide (¬ nxO (Lo r) (Hi r) (lfO (Lo r) (Hi r) (alW n) i) = -1)) n)))) ∧ ∃ B C O, frW w BL B ∧ frW w BH C ∧ (∀ p, p ≠ 46 + w → O p = Od p) ∧ (alb (fun i => decide (¬ nxO (Lo r) (Hi r) (lfO (Lo r) (Hi r) (alW n) i) = -1)) n = true → ∀ j, j < n → O (46 + w) j = nxO (Lo r) (Hi r) (lfO (Lo r) (Hi r) (alW n) j)) ∧ τ = px El Lo Hi B C O Ls nn T) 24 [(3, .int (nI i)), (2, .int (nI n)), (0, .ref (49 + w)), (1, .ref r)] [] (px El Lo Hi B C O Ls nn T) := by
  intro m
  induction m with
  | zero =>
    intro i hi B C hB hC O hO hOj hat ht
    have hi : i = n := by omega
    subst hi
    refine zz_iload_n dX3_findOrder_24 rfl ?_
    refine zz_iload_n dX3_findOrder_25 rfl ?_
    refine zz_icmp_ge (tgt := 118) dX3_findOrder_26 (by decide) (fun _ => ?_) (fun h => absurd (nI_le (by omega) (by omega)) h)
    refine zz_iconst (v := 1) dX3_findOrder_118 (by decide) ?_
    refine zz_zret dX3_findOrder_119 rfl (by first | rfl | exact zB_nar _) ?_
    exact ⟨by rw [ht]; rfl, B, C, O, hB, hC, hO, fun _ => hOj, rfl⟩
  | succ m ih =>
    intro i hi B C hB hC O hO hOj hat ht
    have a1 : B (36 + 5 * w) = (lfO (Lo r) (Hi r) (alW n) i).1 := congrArg (fun q => q.1) hat
    have a2 : C (36 + 5 * w) = (lfO (Lo r) (Hi r) (alW n) i).2 := congrArg (fun q => q.2) hat
    have e1 : 36 + 5 * w ≠ 37 + 5 * w := by omega
    have e2 : 36 + 5 * w ≠ 38 + 5 * w := by omega
    have e3 : 37 + 5 * w ≠ 38 + 5 * w := by omega
    have e4 : 38 + 5 * w ≠ 37 + 5 * w := by omega
    refine zz_iload_n dX3_findOrder_24 rfl ?_
    refine zz_iload_n dX3_findOrder_25 rfl ?_
    refine zz_icmp_ge (tgt := 118) dX3_findOrder_26 (by decide) (fun h => absurd h (nI_ge (by omega) (by omega))) (fun _ => ?_)
    refine zz_iload_n dX3_findOrder_29 rfl ?_
    refine zz_aload_n dX3_findOrder_30 rfl ?_
    refine zz_get (ci := 3) (j := 5) zz_inX3 rfl zw_f_X3_30 rfl (by decide) dX3_findOrder_31 (by omega) (px_wk (by omega)) rfl ?_
    first | refine zz_alen1 (v := 80) dX3_findOrder_34 (by omega) (px_lo (by omega)) (by decide) ?_ | refine zz_alen1 (v := 80) dX3_findOrder_34 (by omega) (px_hi (by omega)) (by decide) ?_ | refine zz_alen0 (v := 80) dX3_findOrder_34 (by omega) (px_od (by omega)) (by decide) ?_ | refine zz_alen0 (v := 80) dX3_findOrder_34 (by omega) px_ls (by decide) ?_ | refine zz_alen3 (v := 4) dX3_findOrder_34 (by omega) px_rs (by decide) ?_
    refine zz_icmp_ge (tgt := 118) dX3_findOrder_35 (by decide) (fun h => absurd h (nI_ge (b := 80) (by omega) (by omega))) (fun _ => ?_)
    refine zz_aload_n dX3_findOrder_38 rfl ?_
    refine zz_aload_n dX3_findOrder_39 rfl ?_
    refine zz_get (ci := 3) (j := 2) zz_inX3 rfl zw_f_X3_21 rfl (by decide) dX3_findOrder_40 (by omega) (px_wk (by omega)) rfl ?_
    refine zz_aload_n dX3_findOrder_43 rfl ?_
    refine zz_get (ci := 3) (j := 3) zz_inX3 rfl zw_f_X3_24 rfl (by decide) dX3_findOrder_44 (by omega) (px_wk (by omega)) rfl ?_
    refine zz_callV0 (ci := 1) (c_imageOf hr hE hn (p := 36 + 5 * w) (by omega) (q := 37 + 5 * w) (by omega) (by have q := lfO_cl (L := Lo r) (H := Hi r) (s := alW n) (alW_cl hn) i; rw [← hat] at q; exact q)) dX3_findOrder_47 zw_m_X3_64 wYX1_imageOf wDX1_imageOf rfl (by omega) (px_rel (by omega)) rfl (Nat.le_of_ble_eq_true rfl) (by decide) rfl ?_
    refine zz_aload_n dX3_findOrder_50 rfl ?_
    refine zz_get (ci := 3) (j := 4) zz_inX3 rfl zw_f_X3_27 rfl (by decide) dX3_findOrder_51 (by omega) (px_wk (by omega)) rfl ?_
    refine zz_aload_n dX3_findOrder_54 rfl ?_
    refine zz_get (ci := 3) (j := 2) zz_inX3 rfl zw_f_X3_21 rfl (by decide) dX3_findOrder_55 (by omega) (px_wk (by omega)) rfl ?_
    refine zz_callV0 (ci := 0) (c_become (by omega) (by omega)) dX3_findOrder_58 zw_m_X3_56 wYX0_become wDX0_become rfl (by omega) (px_bit (by omega)) rfl (Nat.le_of_ble_eq_true rfl) (by decide) rfl ?_
    refine zz_aload_n dX3_findOrder_61 rfl ?_
    refine zz_get (ci := 3) (j := 4) zz_inX3 rfl zw_f_X3_27 rfl (by decide) dX3_findOrder_62 (by omega) (px_wk (by omega)) rfl ?_
    refine zz_aload_n dX3_findOrder_65 rfl ?_
    refine zz_get (ci := 3) (j := 3) zz_inX3 rfl zw_f_X3_24 rfl (by decide) dX3_findOrder_66 (by omega) (px_wk (by omega)) rfl ?_
    refine zz_callV0 (ci := 0) (c_remove (by omega) (by omega)) dX3_findOrder_69 zw_m_X3_68 wYX0_remove wDX0_remove rfl (by omega) (px_bit (by omega)) rfl (Nat.le_of_ble_eq_true rfl) (by decide) rfl ?_
    refine zz_aload_n dX3_findOrder_72 rfl ?_
    refine zz_get (ci := 3) (j := 4) zz_inX3 rfl zw_f_X3_27 rfl (by decide) dX3_findOrder_73 (by omega) (px_wk (by omega)) rfl ?_
    refine zz_iconst (v := 0) dX3_findOrder_76 (by decide) ?_
    refine zz_callV1 (ci := 0) (c_leastFrom (by omega) 0) dX3_findOrder_77 zw_m_X3_81 wYX0_leastFrom wDX0_leastFrom rfl (by omega) (px_bit (by omega)) rfl (Nat.le_of_ble_eq_true rfl) (by decide) rfl ?_
    refine zz_istore dX3_findOrder_80 (by decide) ?_
    refine zz_iload dX3_findOrder_82 rfl ?_
    refine zz_iconst (v := (-1)) dX3_findOrder_84 (by decide) ?_
    refine zz_icmp_ne (tgt := 90) dX3_findOrder_85 (by decide) (fun h85 => ?_) (fun h85 => ?_)
    · refine zz_aload_n dX3_findOrder_90 rfl ?_
      refine zz_get (ci := 3) (j := 5) zz_inX3 rfl zw_f_X3_30 rfl (by decide) dX3_findOrder_91 (by omega) (px_wk (by omega)) rfl ?_
      refine zz_iload_n dX3_findOrder_94 rfl ?_
      refine zz_iload dX3_findOrder_95 rfl ?_
      first | refine zs_od dX3_findOrder_97 (by omega) (by omega) ?_ | refine zs_ls dX3_findOrder_97 (by omega) ?_
      refine zz_aload_n dX3_findOrder_98 rfl ?_
      refine zz_get (ci := 3) (j := 2) zz_inX3 rfl zw_f_X3_21 rfl (by decide) dX3_findOrder_99 (by omega) (px_wk (by omega)) rfl ?_
      refine zz_iload dX3_findOrder_102 rfl ?_
      refine zz_iload dX3_findOrder_104 rfl ?_
      refine zz_iconst (v := 1) dX3_findOrder_106 (by decide) ?_
      refine zz_iadd dX3_findOrder_107 ?_
      refine zz_iconst (v := 0) dX3_findOrder_108 (by decide) ?_
      refine zz_callV0 (ci := 0) (c_putRange (by omega) _ _ false) dX3_findOrder_109 zw_m_X3_77 wYX0_putRange wDX0_putRange rfl (by omega) (px_bit (by omega)) rfl (Nat.le_of_ble_eq_true rfl) (by decide) rfl ?_
      refine zz_iinc (v := nI (i + 1)) dX3_findOrder_112 rfl (nI_1 i) (by decide) ?_
      refine zz_goto (tgt := 24) dX3_findOrder_115 (by decide) ?_
      have e5 : ∀ B : Nat → Int64, frW w BL B → ∀ x y z u, frW w BL (va_up (va_up (va_up (va_up B (37 + 5 * w) x) (38 + 5 * w) y) (38 + 5 * w) z) (36 + 5 * w) u) := fun B h x y z u => frW_u (frW_u (frW_u (frW_u h (by omega) x) (by omega) y) (by omega) z) (by omega) u
      have e6 : ∀ B : Nat → Int64, frW w BH B → ∀ x y z u, frW w BH (va_up (va_up (va_up (va_up B (37 + 5 * w) x) (38 + 5 * w) y) (38 + 5 * w) z) (36 + 5 * w) u) := fun B h x y z u => frW_u (frW_u (frW_u (frW_u h (by omega) x) (by omega) y) (by omega) z) (by omega) u
      simp only [up_at, up_ne _ _ e1, up_ne _ _ e2, up_ne _ _ e3, up_ne _ _ e4, a1, a2] at h85 ⊢
      refine zz_lvs (lv2 := [(3, .int (nI (i + 1))), (2, .int (nI n)), (0, .ref (49 + w)), (1, .ref r)]) (fun q hq => by simp only [List.mem_cons, List.not_mem_nil, or_false] at hq; rcases hq with rfl | rfl | rfl | rfl <;> simp [zz_up1, zz_up2, Value.category]) ?_
      refine ih (i + 1) (by omega) _ _ (e5 _ hB _ _ _ _) (e6 _ hC _ _ _ _) _ (fun p hp => by rw [up_ne _ _ hp]; exact hO p hp) (fun j hj => ?_) ?_ ?_
      · rw [up_at]
        by_cases hji : j = i
        · subst hji
          rw [up_at]
          rfl
        · rw [up_ne _ _ hji]
          exact hOj j (by omega)
      · simp only [up_at, up_up, reduceIte, Bool.false_eq_true]
        rfl
      · show (alb _ i && _) = true
        rw [ht, Bool.true_and]
        exact decide_eq_true h85
    · refine zz_iconst (v := 0) dX3_findOrder_88 (by decide) ?_
      refine zz_zret dX3_findOrder_89 rfl (by first | rfl | exact zB_nar _) ?_
      simp only [up_at, up_ne _ _ e1, up_ne _ _ e2, up_ne _ _ e3, up_ne _ _ e4, a1, a2] at h85
      have hz : alb (fun i => decide (¬ nxO (Lo r) (Hi r) (lfO (Lo r) (Hi r) (alW n) i) = -1)) n = false := alb_f (i := i) (by omega) (decide_eq_false (fun hh => hh h85))
      refine ⟨by rw [hz]; rfl, _, _, O, frW_u (frW_u (frW_u hB (by omega) _) (by omega) _) (by omega) _, frW_u (frW_u (frW_u hC (by omega) _) (by omega) _) (by omega) _, hO, fun hh => ?_, rfl⟩
      rw [hz] at hh
      cases hh
set_option maxHeartbeats 1000000 in
set_option maxRecDepth 20000 in
theorem c_findOrder {w : Nat} (hw : w < 2) {r : Nat} (hr : r < 8) {n : Nat} (hE : El r = nI n) (hn : n ≤ 80) (hcl : cln (Lo r) (Hi r) n) : zz_C mX3_findOrder 4 0 0 [.ref (49 + w), .ref r] (px El Lo Hi BL BH Od Ls nn T) (fun o τ => o = .inl (some (.int (zB (alb (fun i => decide (¬ nxO (Lo r) (Hi r) (lfO (Lo r) (Hi r) (alW n) i) = -1)) n)))) ∧ ∃ B C O, frW w BL B ∧ frW w BH C ∧ (∀ p, p ≠ 46 + w → O p = Od p) ∧ (alb (fun i => decide (¬ nxO (Lo r) (Hi r) (lfO (Lo r) (Hi r) (alW n) i) = -1)) n = true → ∀ j, j < n → O (46 + w) j = nxO (Lo r) (Hi r) (lfO (Lo r) (Hi r) (alW n) j)) ∧ τ = px El Lo Hi B C O Ls nn T) := by
  refine zz_start wPX3_findOrder rfl rfl (Nat.le_of_ble_eq_true rfl) ?_
  refine zz_aload_n dX3_findOrder_0 rfl ?_
  refine zz_callV1 (ci := 1) (c_elementsInside hr) dX3_findOrder_1 zw_m_X3_34 wYX1_elementsInside wDX1_elementsInside rfl (by omega) (px_rel (by omega)) rfl (Nat.le_of_ble_eq_true rfl) (by decide) rfl ?_
  refine zz_istore_n dX3_findOrder_4 (by decide) ?_
  refine zz_aload_n dX3_findOrder_5 rfl ?_
  refine zz_get (ci := 3) (j := 2) zz_inX3 rfl zw_f_X3_21 rfl (by decide) dX3_findOrder_6 (by omega) (px_wk (by omega)) rfl ?_
  refine zz_callV0 (ci := 0) (c_clear (by omega)) dX3_findOrder_9 zw_m_X3_74 wYX0_clear wDX0_clear rfl (by omega) (px_bit (by omega)) rfl (Nat.le_of_ble_eq_true rfl) (by decide) rfl ?_
  refine zz_aload_n dX3_findOrder_12 rfl ?_
  refine zz_get (ci := 3) (j := 2) zz_inX3 rfl zw_f_X3_21 rfl (by decide) dX3_findOrder_13 (by omega) (px_wk (by omega)) rfl ?_
  refine zz_iconst (v := 0) dX3_findOrder_16 (by decide) ?_
  refine zz_iload_n dX3_findOrder_17 rfl ?_
  refine zz_iconst (v := 1) dX3_findOrder_18 (by decide) ?_
  refine zz_callV0 (ci := 0) (c_putRange (by omega) 0 (El r) true) dX3_findOrder_19 zw_m_X3_77 wYX0_putRange wDX0_putRange rfl (by omega) (px_bit (by omega)) rfl (Nat.le_of_ble_eq_true rfl) (by decide) rfl ?_
  refine zz_iconst (v := 0) dX3_findOrder_22 (by decide) ?_
  refine zz_istore_n dX3_findOrder_23 (by decide) ?_
  rw [hE]
  refine l_findOrder hw hr hE hn hcl n 0 (by omega) _ _ (frW_u (frW_u (frW_r w BL) (by omega) _) (by omega) _) (frW_u (frW_u (frW_r w BH) (by omega) _) (by omega) _) Od (fun _ _ => rfl) (fun j hj => absurd hj (Nat.not_lt_zero j)) ?_ rfl
  simp only [up_at, up_up, reduceIte, w_0or]
  rfl
set_option maxHeartbeats 1000000 in
set_option maxRecDepth 20000 in
theorem c_orderedAt {w : Nat} (hw : w < 2) {j : Nat} (hj : j < 80) : zz_Dt mX3_orderedAt 0 0 0 [.ref (49 + w), .int (nI j)] (px El Lo Hi BL BH Od Ls nn T) (.inl (some (.int (Od (46 + w) j)))) (px El Lo Hi BL BH Od Ls nn T) := by
  refine zz_start wPX3_orderedAt rfl rfl (Nat.le_of_ble_eq_true rfl) ?_
  refine zz_iload_n dX3_orderedAt_0 rfl ?_
  refine zz_if_lt (tgt := 13) dX3_orderedAt_1 (by decide) (fun h => absurd h (nI_pos (by omega))) (fun _ => ?_)
  refine zz_iload_n dX3_orderedAt_4 rfl ?_
  refine zz_aload_n dX3_orderedAt_5 rfl ?_
  refine zz_get (ci := 3) (j := 5) zz_inX3 rfl zw_f_X3_30 rfl (by decide) dX3_orderedAt_6 (by omega) (px_wk (by omega)) rfl ?_
  first | refine zz_alen1 (v := 80) dX3_orderedAt_9 (by omega) (px_lo (by omega)) (by decide) ?_ | refine zz_alen1 (v := 80) dX3_orderedAt_9 (by omega) (px_hi (by omega)) (by decide) ?_ | refine zz_alen0 (v := 80) dX3_orderedAt_9 (by omega) (px_od (by omega)) (by decide) ?_ | refine zz_alen0 (v := 80) dX3_orderedAt_9 (by omega) px_ls (by decide) ?_ | refine zz_alen3 (v := 4) dX3_orderedAt_9 (by omega) px_rs (by decide) ?_
  refine zz_icmp_lt (tgt := 17) dX3_orderedAt_10 (by decide) (fun _ => ?_) (fun h => absurd (nI_lt (b := 80) (by omega) (by omega)) h)
  refine zz_aload_n dX3_orderedAt_17 rfl ?_
  refine zz_get (ci := 3) (j := 5) zz_inX3 rfl zw_f_X3_30 rfl (by decide) dX3_orderedAt_18 (by omega) (px_wk (by omega)) rfl ?_
  refine zz_iload_n dX3_orderedAt_21 rfl ?_
  first | refine zl_od dX3_orderedAt_22 (by omega) (by omega) ?_ | refine zl_ls dX3_orderedAt_22 (by omega) ?_
  refine zz_iret dX3_orderedAt_23 rfl ?_
  exact ⟨rfl, rfl⟩
end ZZ6
