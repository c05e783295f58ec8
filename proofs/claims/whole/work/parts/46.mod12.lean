section ZZM12
variable {MB : Nat → Nat → Bool} {MI : Nat → Nat → Int32} {n : Nat} {mt : Int32} {T : zz_St}
set_option maxHeartbeats 1000000 in
set_option maxRecDepth 20000 in
theorem ml_fre {r : Nat} (hr : r < 4) (hn : n ≤ 80) {e : Nat} (he : e < n) : ∀ (m i : Nat), i + m = n → zz_E mX5_isFree none 2 0 0 (fun o τ => o = .inl (some (.int (zB (fre (rl MB r) n (MB 60) e)))) ∧ τ = pm MB MI (nI n) mt T) 18 [(4, .int (nI i)), (3, .int (zB (!(MB 60 e) && alb (fun k => MB 60 k || !(MB 55 (6400 * r + 80 * k + e))) i))), (0, .ref 54), (1, .int (nI r)), (2, .int (nI e))] [] (pm MB MI (nI n) mt T) := by
  intro m
  induction m with
  | zero =>
    intro i hi
    have hi : n = i := by omega
    subst hi
    refine zz_iload dX5_isFree_18 rfl ?_
    refine zz_aload_n dX5_isFree_20 rfl ?_
    refine zz_get (ci := 5) (j := 2) zz_inX5 rfl zw_f_X5_16 rfl (by decide) dX5_isFree_21 (by omega) pm_o rfl ?_
    refine zz_icmp_ge (tgt := 64) dX5_isFree_24 (by decide) (fun _ => ?_) (fun h => absurd (nI_le (by omega) (by omega)) h)
    refine zz_iload_n dX5_isFree_64 rfl ?_
    refine zz_zret dX5_isFree_65 rfl (by first | rfl | exact zB_nar _) ?_
    exact ⟨rfl, rfl⟩
  | succ m ih =>
    intro i hi
    refine zz_iload dX5_isFree_18 rfl ?_
    refine zz_aload_n dX5_isFree_20 rfl ?_
    refine zz_get (ci := 5) (j := 2) zz_inX5 rfl zw_f_X5_16 rfl (by decide) dX5_isFree_21 (by omega) pm_o rfl ?_
    refine zz_icmp_ge (tgt := 64) dX5_isFree_24 (by decide) (fun h => absurd h (nI_ge (by omega) (by omega))) (fun _ => ?_)
    refine zz_iload_n dX5_isFree_27 rfl ?_
    refine zz_if_eq (tgt := 64) dX5_isFree_28 (by decide) (fun h28 => ?_) (fun h28 => ?_)
    · refine zz_iload_n dX5_isFree_64 rfl ?_
      refine zz_zret dX5_isFree_65 rfl (by first | rfl | exact zB_nar _) ?_
      have e8 : alb (fun k => MB 60 k || !(MB 55 (6400 * r + 80 * k + e))) i = false ∨ (!(MB 60 e)) = false := and_ff (zB_0.mp h28)
      have e9 : fre (rl MB r) n (MB 60) e = (!(MB 60 e) && alb (fun k => MB 60 k || !(MB 55 (6400 * r + 80 * k + e))) i) := e8.elim (fun q => by show (_ && alb (fun k => MB 60 k || !(MB 55 (6400 * r + 80 * k + e))) n) = _; rw [q, alb_m (show i ≤ n by omega) q]) (fun q => by show (_ && alb (fun k => MB 60 k || !(MB 55 (6400 * r + 80 * k + e))) n) = _; rw [q]; rfl)
      exact ⟨by rw [e9], rfl⟩
    · refine zz_aload_n dX5_isFree_31 rfl ?_
      refine zz_get (ci := 5) (j := 7) zz_inX5 rfl zw_f_X5_29 rfl (by decide) dX5_isFree_32 (by omega) pm_o rfl ?_
      refine zz_iload dX5_isFree_35 rfl ?_
      refine zl_mb dX5_isFree_37 (by omega) (by simp only [ml55, ml56, ml57, ml58, ml59, ml60, ml61]; omega) (by simp only [ml55, ml56, ml57, ml58, ml59, ml60, ml61]; omega) ?_
      refine zz_if_ne (tgt := 52) dX5_isFree_38 (by decide) (fun h38 => ?_) (fun h38 => ?_)
      · refine zz_iconst (v := 1) dX5_isFree_52 (by decide) ?_
        refine zz_goto (tgt := 57) dX5_isFree_53 (by decide) ?_
        have e7 := bo_t (zB_n.mp h28)
        have e9 : (!(MB 60 e) && alb (fun k => MB 60 k || !(MB 55 (6400 * r + 80 * k + e))) (i + 1)) = (MB 60 i || !(MB 55 (6400 * r + 80 * i + e))) := by rw [e7.1, alb_s e7.2]; rfl
        refine zz_tope (y := zB (!(MB 60 e) && alb (fun k => MB 60 k || !(MB 55 (6400 * r + 80 * k + e))) (i + 1))) (by rw [e9]; first | (rw [zB_n.mp h38]; rfl) | (rw [zB_0.mp h38, zB_n.mp h49]; rfl) | (rw [zB_0.mp h38, zB_0.mp h49]; rfl)) ?_
        refine zz_istore_n dX5_isFree_57 (by decide) ?_
        refine zz_iinc (v := nI (i + 1)) dX5_isFree_58 rfl (nI_1 i) (by decide) ?_
        refine zz_goto (tgt := 18) dX5_isFree_61 (by decide) ?_
        have h9 := ih (i + 1) (by omega)
        refine zz_lvs (fun q hq => ?_) h9
        simp only [List.mem_cons, List.not_mem_nil, or_false] at hq
        rcases hq with rfl | rfl | rfl | rfl | rfl <;> simp [zz_up1, zz_up2, Value.category, f4_3]
      · refine zz_aload_n dX5_isFree_41 rfl ?_
        refine zz_iload_n dX5_isFree_42 rfl ?_
        refine zz_iload dX5_isFree_43 rfl ?_
        refine zz_iload_n dX5_isFree_45 rfl ?_
        refine zz_callV1 (ci := 5) (m_leads hr (show i < 80 by omega) (show e < 80 by omega)) dX5_isFree_46 zw_m_X5_66 wYX5_leads wDX5_leads rfl (by omega) pm_o rfl (Nat.le_of_ble_eq_true rfl) (by decide) rfl ?_
        refine zz_if_ne (tgt := 56) dX5_isFree_49 (by decide) (fun h49 => ?_) (fun h49 => ?_)
        · refine zz_iconst (v := 0) dX5_isFree_56 (by decide) ?_
          have e7 := bo_t (zB_n.mp h28)
          have e9 : (!(MB 60 e) && alb (fun k => MB 60 k || !(MB 55 (6400 * r + 80 * k + e))) (i + 1)) = (MB 60 i || !(MB 55 (6400 * r + 80 * i + e))) := by rw [e7.1, alb_s e7.2]; rfl
          refine zz_tope (y := zB (!(MB 60 e) && alb (fun k => MB 60 k || !(MB 55 (6400 * r + 80 * k + e))) (i + 1))) (by rw [e9]; first | (rw [zB_n.mp h38]; rfl) | (rw [zB_0.mp h38, zB_n.mp h49]; rfl) | (rw [zB_0.mp h38, zB_0.mp h49]; rfl)) ?_
          refine zz_istore_n dX5_isFree_57 (by decide) ?_
          refine zz_iinc (v := nI (i + 1)) dX5_isFree_58 rfl (nI_1 i) (by decide) ?_
          refine zz_goto (tgt := 18) dX5_isFree_61 (by decide) ?_
          have h9 := ih (i + 1) (by omega)
          refine zz_lvs (fun q hq => ?_) h9
          simp only [List.mem_cons, List.not_mem_nil, or_false] at hq
          rcases hq with rfl | rfl | rfl | rfl | rfl <;> simp [zz_up1, zz_up2, Value.category, f4_3]
        · refine zz_iconst (v := 1) dX5_isFree_52 (by decide) ?_
          refine zz_goto (tgt := 57) dX5_isFree_53 (by decide) ?_
          have e7 := bo_t (zB_n.mp h28)
          have e9 : (!(MB 60 e) && alb (fun k => MB 60 k || !(MB 55 (6400 * r + 80 * k + e))) (i + 1)) = (MB 60 i || !(MB 55 (6400 * r + 80 * i + e))) := by rw [e7.1, alb_s e7.2]; rfl
          refine zz_tope (y := zB (!(MB 60 e) && alb (fun k => MB 60 k || !(MB 55 (6400 * r + 80 * k + e))) (i + 1))) (by rw [e9]; first | (rw [zB_n.mp h38]; rfl) | (rw [zB_0.mp h38, zB_n.mp h49]; rfl) | (rw [zB_0.mp h38, zB_0.mp h49]; rfl)) ?_
          refine zz_istore_n dX5_isFree_57 (by decide) ?_
          refine zz_iinc (v := nI (i + 1)) dX5_isFree_58 rfl (nI_1 i) (by decide) ?_
          refine zz_goto (tgt := 18) dX5_isFree_61 (by decide) ?_
          have h9 := ih (i + 1) (by omega)
          refine zz_lvs (fun q hq => ?_) h9
          simp only [List.mem_cons, List.not_mem_nil, or_false] at hq
          rcases hq with rfl | rfl | rfl | rfl | rfl <;> simp [zz_up1, zz_up2, Value.category, f4_3]
set_option maxHeartbeats 1000000 in
set_option maxRecDepth 20000 in
theorem m_isFree {r : Nat} (hr : r < 4) (hn : n ≤ 80) {e : Nat} (he : e < n) : zz_C mX5_isFree 2 0 0 [.ref 54, .int (nI r), .int (nI e)] (pm MB MI (nI n) mt T) (fun o τ => o = .inl (some (.int (zB (fre (rl MB r) n (MB 60) e)))) ∧ τ = pm MB MI (nI n) mt T) := by
  · refine zz_start wPX5_isFree rfl rfl (Nat.le_of_ble_eq_true rfl) ?_
    refine zz_aload_n dX5_isFree_0 rfl ?_
    refine zz_get (ci := 5) (j := 7) zz_inX5 rfl zw_f_X5_29 rfl (by decide) dX5_isFree_1 (by omega) pm_o rfl ?_
    refine zz_iload_n dX5_isFree_4 rfl ?_
    refine zl_mb dX5_isFree_5 (by omega) (by simp only [ml55, ml56, ml57, ml58, ml59, ml60, ml61]; omega) (by simp only [ml55, ml56, ml57, ml58, ml59, ml60, ml61]; omega) ?_
    refine zz_if_ne (tgt := 13) dX5_isFree_6 (by decide) (fun h6 => ?_) (fun h6 => ?_)
    · refine zz_iconst (v := 0) dX5_isFree_13 (by decide) ?_
      refine zz_tope (y := zB (!(MB 60 e) && alb (fun k => MB 60 k || !(MB 55 (6400 * r + 80 * k + e))) 0)) (by first | (rw [zB_0.mp h6]; rfl) | (rw [zB_n.mp h6]; rfl)) ?_
      refine zz_istore_n dX5_isFree_14 (by decide) ?_
      refine zz_iconst (v := 0) dX5_isFree_15 (by decide) ?_
      refine zz_istore dX5_isFree_16 (by decide) ?_
      exact ml_fre hr hn he n 0 (by omega)
    · refine zz_iconst (v := 1) dX5_isFree_9 (by decide) ?_
      refine zz_goto (tgt := 14) dX5_isFree_10 (by decide) ?_
      refine zz_tope (y := zB (!(MB 60 e) && alb (fun k => MB 60 k || !(MB 55 (6400 * r + 80 * k + e))) 0)) (by first | (rw [zB_0.mp h6]; rfl) | (rw [zB_n.mp h6]; rfl)) ?_
      refine zz_istore_n dX5_isFree_14 (by decide) ?_
      refine zz_iconst (v := 0) dX5_isFree_15 (by decide) ?_
      refine zz_istore dX5_isFree_16 (by decide) ?_
      exact ml_fre hr hn he n 0 (by omega)
set_option maxHeartbeats 1000000 in
set_option maxRecDepth 20000 in
theorem ml_orS {Q : zz_Q} {r : Nat} (hr : r < 4) (hn : n ≤ 80) {p z : Nat} (K : zz_E mX5_orders none 3 0 0 Q 60 [(3, .int (nI z)), (2, .int (nI p)), (0, .ref 54), (1, .int (nI r))] [] (pm MB MI (nI n) mt T)) : ∀ (m i : Nat), i + m = n → ff (fre (rl MB r) n (MB 60)) m i = z → zz_E mX5_orders none 3 0 0 (Q) 37 [(3, .int (nI i)), (2, .int (nI p)), (0, .ref 54), (1, .int (nI r))] [] (pm MB MI (nI n) mt T) := by
  intro m
  induction m with
  | zero =>
    intro i hi hz
    have hi : n = i := by omega
    subst hi
    have hz2 : n = z := hz
    subst hz2
    refine zz_iload_n dX5_orders_37 rfl ?_
    refine zz_aload_n dX5_orders_38 rfl ?_
    refine zz_get (ci := 5) (j := 2) zz_inX5 rfl zw_f_X5_16 rfl (by decide) dX5_orders_39 (by omega) pm_o rfl ?_
    refine zz_icmp_ge (tgt := 60) dX5_orders_42 (by decide) (fun _ => ?_) (fun h => absurd (nI_le (by omega) (by omega)) h)
    exact K
  | succ m ih =>
    intro i hi hz
    refine zz_iload_n dX5_orders_37 rfl ?_
    refine zz_aload_n dX5_orders_38 rfl ?_
    refine zz_get (ci := 5) (j := 2) zz_inX5 rfl zw_f_X5_16 rfl (by decide) dX5_orders_39 (by omega) pm_o rfl ?_
    refine zz_icmp_ge (tgt := 60) dX5_orders_42 (by decide) (fun h => absurd h (nI_ge (by omega) (by omega))) (fun _ => ?_)
    refine zz_aload_n dX5_orders_45 rfl ?_
    refine zz_iload_n dX5_orders_46 rfl ?_
    refine zz_iload_n dX5_orders_47 rfl ?_
    refine zz_callV1 (ci := 5) (m_isFree hr hn (show i < n by omega)) dX5_orders_48 zw_m_X5_125 wYX5_isFree wDX5_isFree rfl (by omega) pm_o rfl (Nat.le_of_ble_eq_true rfl) (by decide) rfl ?_
    refine zz_if_ne (tgt := 60) dX5_orders_51 (by decide) (fun h51 => ?_) (fun h51 => ?_)
    · rw [ff_t (zB_n.mp h51)] at hz
      subst hz
      exact K
    · refine zz_iinc (v := nI (i + 1)) dX5_orders_54 rfl (nI_1 i) (by decide) ?_
      refine zz_goto (tgt := 37) dX5_orders_57 (by decide) ?_
      rw [ff_f (zB_0.mp h51)] at hz
      exact ih (i + 1) (by omega) hz
set_option maxHeartbeats 1000000 in
set_option maxRecDepth 20000 in
theorem ml_orO {r : Nat} (hr : r < 4) (hn : n ≤ 80) (h1 : 1 ≤ n) : ∀ (m i : Nat), i + m = n → ∀ (S : Nat → Bool) (MI : Nat → Nat → Int32), (∀ k, k < n → S k = orM (rl MB r) n i k) → (∀ j, j < i → MI 64 j = nI (orX (rl MB r) n j)) → (∀ j, j < i → orX (rl MB r) n j < n) → zz_E mX5_orders none 3 0 0 (fun o τ => o = .inl (some (.int (nI (orN (rl MB r) n)))) ∧ ∃ S MI, (∀ j, j < orN (rl MB r) n → MI 64 j = nI (orX (rl MB r) n j)) ∧ τ = pm (va_up MB 60 S) MI (nI n) mt T) 35 [(2, .int (nI i)), (0, .ref 54), (1, .int (nI r))] [] (pm (va_up MB 60 S) MI (nI n) mt T) := by
  intro m
  induction m with
  | zero =>
    intro i hi S MI hS hord hlt
    have hi : n = i := by omega
    subst hi
    have hX := orX_n hlt
    refine zz_iconst (v := 0) dX5_orders_35 (by decide) ?_
    refine zz_istore_n dX5_orders_36 (by decide) ?_
    refine zz_lvs (lv2 := [(3, .int (nI 0)), (2, .int (nI n)), (0, .ref 54), (1, .int (nI r))]) (fun q hq => by simp only [List.mem_cons, List.not_mem_nil, or_false] at hq; rcases hq with rfl | rfl | rfl | rfl <;> simp [zz_up1, zz_up2, Value.category, nI_0, f4_3]) ?_
    have hff : ff (fre (rl MB r) n ((va_up MB 60 S) 60)) n 0 = orX (rl MB r) n n := ff_c (fun k _ hk => fre_c (fun k hk => by rw [up_at]; exact hS k hk) (by omega))
    refine ml_orS (MB := va_up MB 60 S) (MI := MI) (mt := mt) (T := T) hr hn (p := n) (z := orX (rl MB r) n n) ?_ n 0 (by omega) hff
    refine zz_iload_n dX5_orders_60 rfl ?_
    refine zz_aload_n dX5_orders_61 rfl ?_
    refine zz_get (ci := 5) (j := 2) zz_inX5 rfl zw_f_X5_16 rfl (by decide) dX5_orders_62 (by omega) pm_o rfl ?_
    refine zz_icmp_ge (tgt := 27) dX5_orders_65 (by decide) (fun _ => ?_) (fun h => absurd (by rw [hX]; exact nI_le (Nat.le_refl n) (by omega)) h)
    refine zz_iload_n dX5_orders_27 rfl ?_
    refine zz_aload_n dX5_orders_28 rfl ?_
    refine zz_get (ci := 5) (j := 2) zz_inX5 rfl zw_f_X5_16 rfl (by decide) dX5_orders_29 (by omega) pm_o rfl ?_
    refine zz_icmp_ge (tgt := 88) dX5_orders_32 (by decide) (fun _ => ?_) (fun h => absurd (by rw [hX]; exact nI_le (Nat.le_refl n) (by omega)) h)
    refine zz_iload_n dX5_orders_88 rfl ?_
    refine zz_iret dX5_orders_89 rfl ?_
    refine ⟨by rw [orN_is (by omega) hlt hX], S, MI, fun j hj => ?_, rfl⟩
    rw [orN_is (by omega) hlt hX] at hj
    exact hord j hj
  | succ m ih =>
    intro i hi S MI hS hord hlt
    have hin : i < n := by omega
    refine zz_iconst (v := 0) dX5_orders_35 (by decide) ?_
    refine zz_istore_n dX5_orders_36 (by decide) ?_
    refine zz_lvs (lv2 := [(3, .int (nI 0)), (2, .int (nI i)), (0, .ref 54), (1, .int (nI r))]) (fun q hq => by simp only [List.mem_cons, List.not_mem_nil, or_false] at hq; rcases hq with rfl | rfl | rfl | rfl <;> simp [zz_up1, zz_up2, Value.category, nI_0, f4_3]) ?_
    have hff : ff (fre (rl MB r) n ((va_up MB 60 S) 60)) n 0 = orX (rl MB r) n i := ff_c (fun k _ hk => fre_c (fun k hk => by rw [up_at]; exact hS k hk) (by omega))
    refine ml_orS (MB := va_up MB 60 S) (MI := MI) (mt := mt) (T := T) hr hn (p := i) (z := orX (rl MB r) n i) ?_ n 0 (by omega) hff
    by_cases hX : orX (rl MB r) n i = n
    · refine zz_iload_n dX5_orders_60 rfl ?_
      refine zz_aload_n dX5_orders_61 rfl ?_
      refine zz_get (ci := 5) (j := 2) zz_inX5 rfl zw_f_X5_16 rfl (by decide) dX5_orders_62 (by omega) pm_o rfl ?_
      refine zz_icmp_ge (tgt := 27) dX5_orders_65 (by decide) (fun _ => ?_) (fun h => absurd (by rw [hX]; exact nI_le (Nat.le_refl n) (by omega)) h)
      refine zz_iload_n dX5_orders_27 rfl ?_
      refine zz_aload_n dX5_orders_28 rfl ?_
      refine zz_get (ci := 5) (j := 2) zz_inX5 rfl zw_f_X5_16 rfl (by decide) dX5_orders_29 (by omega) pm_o rfl ?_
      refine zz_icmp_ge (tgt := 88) dX5_orders_32 (by decide) (fun _ => ?_) (fun h => absurd (by rw [hX]; exact nI_le (Nat.le_refl n) (by omega)) h)
      refine zz_iload_n dX5_orders_88 rfl ?_
      refine zz_iret dX5_orders_89 rfl ?_
      refine ⟨by rw [orN_is (by omega) hlt hX], S, MI, fun j hj => ?_, rfl⟩
      rw [orN_is (by omega) hlt hX] at hj
      exact hord j hj
    · have hXl : orX (rl MB r) n i < n := by have := orX_le (rl MB r) n i; omega
      refine zz_iload_n dX5_orders_60 rfl ?_
      refine zz_aload_n dX5_orders_61 rfl ?_
      refine zz_get (ci := 5) (j := 2) zz_inX5 rfl zw_f_X5_16 rfl (by decide) dX5_orders_62 (by omega) pm_o rfl ?_
      refine zz_icmp_ge (tgt := 27) dX5_orders_65 (by decide) (fun h => absurd h (nI_ge hXl (by omega))) (fun _ => ?_)
      refine zz_aload_n dX5_orders_68 rfl ?_
      refine zz_get (ci := 5) (j := 7) zz_inX5 rfl zw_f_X5_29 rfl (by decide) dX5_orders_69 (by omega) pm_o rfl ?_
      refine zz_iload_n dX5_orders_72 rfl ?_
      refine zz_iconst (v := 1) dX5_orders_73 (by decide) ?_
      refine zs_mb (b := true) dX5_orders_74 (by omega) (by simp only [ml55, ml56, ml57, ml58, ml59, ml60, ml61]; omega) (by simp only [ml55, ml56, ml57, ml58, ml59, ml60, ml61]; omega) ?_
      refine zz_aload_n dX5_orders_75 rfl ?_
      refine zz_get (ci := 5) (j := 11) zz_inX5 rfl zw_f_X5_42 rfl (by decide) dX5_orders_76 (by omega) pm_o rfl ?_
      refine zz_iload_n dX5_orders_79 rfl ?_
      refine zz_iload_n dX5_orders_80 rfl ?_
      refine zs_mi dX5_orders_81 (by omega) (by omega) ?_
      refine zz_iinc (v := nI (i + 1)) dX5_orders_82 rfl (nI_1 i) (by decide) ?_
      refine zz_goto (tgt := 27) dX5_orders_85 (by decide) ?_
      refine zz_iload_n dX5_orders_27 rfl ?_
      refine zz_aload_n dX5_orders_28 rfl ?_
      refine zz_get (ci := 5) (j := 2) zz_inX5 rfl zw_f_X5_16 rfl (by decide) dX5_orders_29 (by omega) pm_o rfl ?_
      refine zz_icmp_ge (tgt := 88) dX5_orders_32 (by decide) (fun h => absurd h (nI_ge hXl (by omega))) (fun _ => ?_)
      refine zz_lvs (lv2 := [(2, .int (nI (i + 1))), (0, .ref 54), (1, .int (nI r))]) (fun q hq => by simp only [List.mem_cons, List.not_mem_nil, or_false] at hq; rcases hq with rfl | rfl | rfl <;> simp [zz_up1, zz_up2, Value.category, f4_2]) ?_
      simp only [up_at, up_up]
      refine ih (i + 1) (by omega) _ _ (fun k hk => ?_) (fun j hj => ?_) (fun j hj => ?_)
      · rw [orM_s]
        by_cases q : k = orX (rl MB r) n i
        · subst q; rw [up_at, up_at]
        · rw [up_ne _ _ q, up_ne _ _ q]; exact hS k hk
      · rw [up_at]
        by_cases q : j = i
        · subst q; rw [up_at]
        · rw [up_ne _ _ q]; exact hord j (by omega)
      · by_cases q : j = i
        · subst q; exact hXl
        · exact hlt j (by omega)
set_option maxHeartbeats 1000000 in
set_option maxRecDepth 20000 in
theorem ml_orZ {Q : zz_Q} {r : Nat} (hr : r < 4) (hn : n ≤ 80) (K : zz_E mX5_orders none 3 0 0 Q 23 [(2, .int (nI n)), (0, .ref 54), (1, .int (nI r))] [] (pm (va_up MB 60 (cpy n (fun _ => false) (MB 60))) MI (nI n) mt T)) : ∀ (m i : Nat), i + m = n → zz_E mX5_orders none 3 0 0 (Q) 2 [(2, .int (nI i)), (0, .ref 54), (1, .int (nI r))] [] (pm (va_up MB 60 (cpy i (fun _ => false) (MB 60))) MI (nI n) mt T) := by
  intro m
  induction m with
  | zero =>
    intro i hi
    have hi : n = i := by omega
    subst hi
    refine zz_iload_n dX5_orders_2 rfl ?_
    refine zz_aload_n dX5_orders_3 rfl ?_
    refine zz_get (ci := 5) (j := 2) zz_inX5 rfl zw_f_X5_16 rfl (by decide) dX5_orders_4 (by omega) pm_o rfl ?_
    refine zz_icmp_ge (tgt := 23) dX5_orders_7 (by decide) (fun _ => ?_) (fun h => absurd (nI_le (by omega) (by omega)) h)
    exact K
  | succ m ih =>
    intro i hi
    refine zz_iload_n dX5_orders_2 rfl ?_
    refine zz_aload_n dX5_orders_3 rfl ?_
    refine zz_get (ci := 5) (j := 2) zz_inX5 rfl zw_f_X5_16 rfl (by decide) dX5_orders_4 (by omega) pm_o rfl ?_
    refine zz_icmp_ge (tgt := 23) dX5_orders_7 (by decide) (fun h => absurd h (nI_ge (by omega) (by omega))) (fun _ => ?_)
    refine zz_aload_n dX5_orders_10 rfl ?_
    refine zz_get (ci := 5) (j := 7) zz_inX5 rfl zw_f_X5_29 rfl (by decide) dX5_orders_11 (by omega) pm_o rfl ?_
    refine zz_iload_n dX5_orders_14 rfl ?_
    refine zz_iconst (v := 0) dX5_orders_15 (by decide) ?_
    refine zs_mb (b := false) dX5_orders_16 (by omega) (by simp only [ml55, ml56, ml57, ml58, ml59, ml60, ml61]; omega) (by simp only [ml55, ml56, ml57, ml58, ml59, ml60, ml61]; omega) ?_
    refine zz_iinc (v := nI (i + 1)) dX5_orders_17 rfl (nI_1 i) (by decide) ?_
    refine zz_goto (tgt := 2) dX5_orders_20 (by decide) ?_
    have h9 := ih (i + 1) (by omega)
    rw [← cpy_s i] at h9
    simp only [up_at, up_up]
    exact h9
set_option maxHeartbeats 1000000 in
set_option maxRecDepth 20000 in
theorem m_orders {r : Nat} (hr : r < 4) (hn : n ≤ 80) (h1 : 1 ≤ n) : zz_C mX5_orders 3 0 0 [.ref 54, .int (nI r)] (pm MB MI (nI n) mt T) (fun o τ => o = .inl (some (.int (nI (orN (rl MB r) n)))) ∧ ∃ S MI, (∀ j, j < orN (rl MB r) n → MI 64 j = nI (orX (rl MB r) n j)) ∧ τ = pm (va_up MB 60 S) MI (nI n) mt T) := by
  refine zz_start wPX5_orders rfl rfl (Nat.le_of_ble_eq_true rfl) ?_
  refine zz_iconst (v := 0) dX5_orders_0 (by decide) ?_
  refine zz_istore_n dX5_orders_1 (by decide) ?_
  have h9 := fun Q K => ml_orZ (MB := MB) (MI := MI) (mt := mt) (T := T) (Q := Q) hr hn K n 0 (by omega)
  rw [cpy_0, up_self] at h9
  refine h9 _ ?_
  refine zz_iconst (v := 0) dX5_orders_23 (by decide) ?_
  refine zz_istore_n dX5_orders_24 (by decide) ?_
  refine zz_iconst (v := 0) dX5_orders_25 (by decide) ?_
  refine zz_istore_n dX5_orders_26 (by decide) ?_
  refine zz_iload_n dX5_orders_27 rfl ?_
  refine zz_aload_n dX5_orders_28 rfl ?_
  refine zz_get (ci := 5) (j := 2) zz_inX5 rfl zw_f_X5_16 rfl (by decide) dX5_orders_29 (by omega) pm_o rfl ?_
  refine zz_icmp_ge (tgt := 88) dX5_orders_32 (by decide) (fun h => absurd h (nI_ge (a := 0) (by omega) (by omega))) (fun _ => ?_)
  refine zz_lvs (lv2 := [(2, .int (nI 0)), (0, .ref 54), (1, .int (nI r))]) (fun q hq => by simp only [List.mem_cons, List.not_mem_nil, or_false] at hq; rcases hq with rfl | rfl | rfl <;> simp [zz_up1, zz_up2, Value.category, nI_0, f4_2, f4_3, lv_args]) ?_
  exact ml_orO (MB := MB) (mt := mt) (T := T) hr hn h1 n 0 (by omega) _ MI (fun k hk => cpy_lt hk _ _) (fun j hj => absurd hj (Nat.not_lt_zero j)) (fun j hj => absurd hj (Nat.not_lt_zero j))
set_option maxHeartbeats 1000000 in
set_option maxRecDepth 20000 in
theorem m_orderAt_v {r p0 : Nat} (hr : r < 4) (hp0 : p0 < n) (hn : n ≤ 80) (ho : orN (rl MB r) n = n) : zz_C mX5_orderAt 4 0 0 [.ref 54, .int (nI r), .int (nI p0)] (pm MB MI (nI n) mt T) (zmQ n T (MB 55) (MB 56) 0 (some (.int (nI (orX (rl MB r) n p0))))) := by
  have h1 : 1 ≤ n := by omega
  have e1 : (isR (nI r) && isE n (nI p0)) = true := and_t (isR_t hr) (isE_n hn hp0)
  · refine zz_start wPX5_orderAt rfl rfl (Nat.le_of_ble_eq_true rfl) ?_
    refine zz_aload_n dX5_orderAt_0 rfl ?_
    refine zz_iload_n dX5_orderAt_1 rfl ?_
    refine zz_iload_n dX5_orderAt_2 rfl ?_
    refine zz_callV1 (ci := 5) (m_isRow _ _) dX5_orderAt_3 zw_m_X5_83 wYX5_isRow wDX5_isRow rfl (by omega) pm_o rfl (Nat.le_of_ble_eq_true rfl) (by decide) rfl ?_
    refine zz_if_ne (tgt := 15) dX5_orderAt_6 (by decide) (fun _ => ?_) (fun q => absurd q (by rw [e1]; decide))
    refine zz_aload_n dX5_orderAt_15 rfl ?_
    refine zz_iload_n dX5_orderAt_16 rfl ?_
    refine zz_callV (ci := 5) (m_orders hr hn h1) dX5_orderAt_17 zw_m_X5_128 wYX5_orders wDX5_orders rfl (by omega) pm_o rfl (Nat.le_of_ble_eq_true rfl) (by decide) (by omega) (by omega) rfl ?_ (fun E τ hE => by cases hE.1)
    rintro v9 τ9 ⟨hv9, S2, MI2, hord, rfl⟩
    cases hv9
    refine zz_aload_n dX5_orderAt_20 rfl ?_
    refine zz_get (ci := 5) (j := 2) zz_inX5 rfl zw_f_X5_16 rfl (by decide) dX5_orderAt_21 (by omega) pm_o rfl ?_
    refine zz_icmp_ge (tgt := 35) dX5_orderAt_24 (by decide) (fun _ => ?_) (fun h => absurd (by rw [ho]; exact nI_le (Nat.le_refl n) (by omega)) h)
    refine zz_aload_n dX5_orderAt_35 rfl ?_
    refine zz_aload_n dX5_orderAt_36 rfl ?_
    refine zz_get (ci := 5) (j := 11) zz_inX5 rfl zw_f_X5_42 rfl (by decide) dX5_orderAt_37 (by omega) pm_o rfl ?_
    refine zz_iload_n dX5_orderAt_40 rfl ?_
    refine zl_mi dX5_orderAt_41 (by omega) (by omega) ?_
    refine zz_callV1 (ci := 5) (m_told _) dX5_orderAt_42 zw_m_X5_80 wYX5_told wDX5_told rfl (by omega) pm_o rfl (Nat.le_of_ble_eq_true rfl) (by decide) rfl ?_
    refine zz_iret dX5_orderAt_45 rfl ?_
    exact ⟨by rw [hord p0 (by omega)], va_up MB 60 S2, MI2, rfl, rfl, rfl⟩
set_option maxHeartbeats 1000000 in
set_option maxRecDepth 20000 in
theorem m_orderAt_y {r p0 : Nat} (hr : r < 4) (hp0 : p0 < n) (hn : n ≤ 80) (ho : orN (rl MB r) n < n) : zz_C mX5_orderAt 4 0 0 [.ref 54, .int (nI r), .int (nI p0)] (pm MB MI (nI n) mt T) (zmQ n T (MB 55) (MB 56) 2 (some (.int 0))) := by
  have h1 : 1 ≤ n := by omega
  have e1 : (isR (nI r) && isE n (nI p0)) = true := and_t (isR_t hr) (isE_n hn hp0)
  · refine zz_start wPX5_orderAt rfl rfl (Nat.le_of_ble_eq_true rfl) ?_
    refine zz_aload_n dX5_orderAt_0 rfl ?_
    refine zz_iload_n dX5_orderAt_1 rfl ?_
    refine zz_iload_n dX5_orderAt_2 rfl ?_
    refine zz_callV1 (ci := 5) (m_isRow _ _) dX5_orderAt_3 zw_m_X5_83 wYX5_isRow wDX5_isRow rfl (by omega) pm_o rfl (Nat.le_of_ble_eq_true rfl) (by decide) rfl ?_
    refine zz_if_ne (tgt := 15) dX5_orderAt_6 (by decide) (fun _ => ?_) (fun q => absurd q (by rw [e1]; decide))
    refine zz_aload_n dX5_orderAt_15 rfl ?_
    refine zz_iload_n dX5_orderAt_16 rfl ?_
    refine zz_callV (ci := 5) (m_orders hr hn h1) dX5_orderAt_17 zw_m_X5_128 wYX5_orders wDX5_orders rfl (by omega) pm_o rfl (Nat.le_of_ble_eq_true rfl) (by decide) (by omega) (by omega) rfl ?_ (fun E τ hE => by cases hE.1)
    rintro v9 τ9 ⟨hv9, S2, MI2, hord, rfl⟩
    cases hv9
    refine zz_aload_n dX5_orderAt_20 rfl ?_
    refine zz_get (ci := 5) (j := 2) zz_inX5 rfl zw_f_X5_16 rfl (by decide) dX5_orderAt_21 (by omega) pm_o rfl ?_
    refine zz_icmp_ge (tgt := 35) dX5_orderAt_24 (by decide) (fun h => absurd h (nI_ge ho (by omega))) (fun _ => ?_)
    refine zz_aload_n dX5_orderAt_27 rfl ?_
    refine zz_iconst (v := 2) dX5_orderAt_28 (by decide) ?_
    refine zz_callV1 (ci := 5) (m_refuse 2) dX5_orderAt_29 zw_m_X5_77 wYX5_refuse wDX5_refuse rfl (by omega) pm_o rfl (Nat.le_of_ble_eq_true rfl) (by decide) rfl ?_
    refine zz_goto (tgt := 45) dX5_orderAt_32 (by decide) ?_
    refine zz_iret dX5_orderAt_45 rfl ?_
    exact ⟨rfl, va_up MB 60 S2, MI2, rfl, rfl, rfl⟩
set_option maxHeartbeats 1000000 in
set_option maxRecDepth 20000 in
theorem m_orderAt_x {v w : Int32} (h : (isR v && isE n w) = false) : zz_C mX5_orderAt 4 0 0 [.ref 54, .int v, .int w] (pm MB MI (nI n) mt T) (fun o τ => o = .inl (some (.int 0)) ∧ τ = pm MB MI (nI n) 1 T) := by
  · refine zz_start wPX5_orderAt rfl rfl (Nat.le_of_ble_eq_true rfl) ?_
    refine zz_aload_n dX5_orderAt_0 rfl ?_
    refine zz_iload_n dX5_orderAt_1 rfl ?_
    refine zz_iload_n dX5_orderAt_2 rfl ?_
    refine zz_callV1 (ci := 5) (m_isRow _ _) dX5_orderAt_3 zw_m_X5_83 wYX5_isRow wDX5_isRow rfl (by omega) pm_o rfl (Nat.le_of_ble_eq_true rfl) (by decide) rfl ?_
    refine zz_if_ne (tgt := 15) dX5_orderAt_6 (by decide) (fun q => absurd (by rw [h]; rfl) q) (fun _ => ?_)
    refine zz_aload_n dX5_orderAt_9 rfl ?_
    refine zz_iconst (v := 1) dX5_orderAt_10 (by decide) ?_
    refine zz_callV1 (ci := 5) (m_refuse 1) dX5_orderAt_11 zw_m_X5_77 wYX5_refuse wDX5_refuse rfl (by omega) pm_o rfl (Nat.le_of_ble_eq_true rfl) (by decide) rfl ?_
    refine zz_iret dX5_orderAt_14 rfl ?_
    exact ⟨rfl, rfl⟩
theorem lw_a {n i p c : Nat} {R : Nat → Nat → Bool} {l : Nat → Nat} (h : ∀ j, j < i → R (orX R n j) (orX R n p) = true → l j + 1 ≤ c) (h2 : R (orX R n i) (orX R n p) = true → l i + 1 ≤ c) : ∀ j, j < i + 1 → R (orX R n j) (orX R n p) = true → l j + 1 ≤ c := fun j hj hR => by
  by_cases e : j = i
  · subst e; exact h2 hR
  · exact h j (by omega) hR
theorem lw_b {n i p c : Nat} {R : Nat → Nat → Bool} {l : Nat → Nat} (h : ∀ j, j < i → R (orX R n j) (orX R n p) = true → l j + 1 ≤ c) (h2 : c < l i + 1) : ∀ j, j < i + 1 → R (orX R n j) (orX R n p) = true → l j + 1 ≤ l i + 1 := fun j hj hR => by
  by_cases e : j = i
  · subst e; exact Nat.le_refl _
  · have := h j (by omega) hR
    omega
theorem lw_m {l : Nat → Nat} {i b c : Nat} (h : ∀ j, j < i → l j ≤ b) (h2 : c ≤ b) : ∀ j, j < i + 1 → va_up l i c j ≤ b := fun j hj => by
  by_cases e : j = i
  · subst e; rw [up_at]; exact h2
  · rw [up_ne _ _ e]; exact h j (by omega)
def lwI (R : Nat → Nat → Bool) (n : Nat) (MI : Nat → Nat → Int32) (l : Nat → Nat) (p : Nat) : Prop := (∀ j, j < n → MI 64 j = nI (orX R n j)) ∧ ∀ j, j < p → MI 65 (orX R n j) = nI (l j) ∧ weB R n (l j) (orX R n j) = true ∧ ∀ m, weB R n m (orX R n j) = true → m ≤ l j
theorem lwI_u {R : Nat → Nat → Bool} {n : Nat} {MI : Nat → Nat → Int32} {l : Nat → Nat} {p : Nat} (h : lwI R n MI l p) (hp : orX R n p < n) (v : Int32) : lwI R n (va_up MI 65 (va_up (MI 65) (orX R n p) v)) l p :=
  ⟨fun j hj => by rw [up_ne _ _ (show (64 : Nat) ≠ 65 by decide)]; exact h.1 j hj, fun j hj => by rw [up_at, up_ne _ _ (orX_ne hj hp)]; exact h.2 j hj⟩
theorem lwI_n {R : Nat → Nat → Bool} {n : Nat} {MI : Nat → Nat → Int32} {l : Nat → Nat} {p c : Nat} (h : lwI R n MI l p) (hp : orX R n p < n) (h1 : MI 65 (orX R n p) = nI c) (h2 : weB R n c (orX R n p) = true) (h3 : ∀ j, j < p → R (orX R n j) (orX R n p) = true → l j + 1 ≤ c) : lwI R n MI (va_up l p c) (p + 1) := by
  refine ⟨h.1, fun j hj => ?_⟩
  by_cases e : j = p
  · subst e
    rw [up_at]
    refine ⟨h1, h2, fun m hm => ?_⟩
    cases m with
    | zero => exact Nat.zero_le _
    | succ m =>
      obtain ⟨k, k1, k2, k3⟩ := weB_s.mp hm
      obtain ⟨i, i1, i2⟩ := orX_pre hp k1 k3
      have q1 := (h.2 i i1).2.2 m (by rw [i2]; exact k2)
      have q2 := h3 i i1 (by rw [i2]; exact k3)
      omega
  · rw [up_ne _ _ e]
    exact h.2 j (by omega)
set_option maxHeartbeats 1000000 in
set_option maxRecDepth 20000 in
theorem ml_lwI {Q : zz_Q} {r : Nat} (hr : r < 4) (hn : n ≤ 80) {p b : Nat} (hp : p < n) {l : Nat → Nat} (hX : ∀ j, j < n → (orX (rl MB r) n j) < n) (K : ∀ (MI : Nat → Nat → Int32) (c : Nat), lwI (rl MB r) n MI l p → MI 65 (orX (rl MB r) n p) = nI c → weB (rl MB r) n c (orX (rl MB r) n p) = true → (∀ j, j < p → (rl MB r) (orX (rl MB r) n j) (orX (rl MB r) n p) = true → l j + 1 ≤ c) → zz_E mX5_longestWalk none 4 0 0 Q 130 [(4, .int (nI (orX (rl MB r) n p))), (3, .int (nI p)), (2, .int (nI b)), (0, .ref 54), (1, .int (nI r))] [] (pm MB MI (nI n) mt T)) : ∀ (m i : Nat), i + m = p → ∀ (MI : Nat → Nat → Int32) (c : Nat), lwI (rl MB r) n MI l p → MI 65 (orX (rl MB r) n p) = nI c → weB (rl MB r) n c (orX (rl MB r) n p) = true → (∀ j, j < i → (rl MB r) (orX (rl MB r) n j) (orX (rl MB r) n p) = true → l j + 1 ≤ c) → zz_E mX5_longestWalk none 4 0 0 (Q) 62 [(5, .int (nI i)), (4, .int (nI (orX (rl MB r) n p))), (3, .int (nI p)), (2, .int (nI b)), (0, .ref 54), (1, .int (nI r))] [] (pm MB MI (nI n) mt T) := by
  intro m
  induction m with
  | zero =>
    intro i hi MI c hI hc hw hall
    have hi : p = i := by omega
    subst hi
    refine zz_iload dX5_longestWalk_62 rfl ?_
    refine zz_iload_n dX5_longestWalk_64 rfl ?_
    refine zz_icmp_ge (tgt := 130) dX5_longestWalk_65 (by decide) (fun _ => ?_) (fun h => absurd (nI_le (by omega) (by omega)) h)
    refine zz_lvs (lv2 := [(4, .int (nI (orX (rl MB r) n p))), (3, .int (nI p)), (2, .int (nI b)), (0, .ref 54), (1, .int (nI r))]) (fun q hq => by simp only [List.mem_cons, List.not_mem_nil, or_false] at hq; rcases hq with rfl | rfl | rfl | rfl | rfl <;> simp [zz_up1, zz_up2, Value.category]) ?_
    exact K MI c hI hc hw hall
  | succ m ih =>
    intro i hi MI c hI hc hw hall
    have hip : i < p := by omega
    have hXi := hX i (by omega)
    have hXp := hX p hp
    have hli := or_we hXi (hI.2 i hip).2.1
    have hcp := or_we hXp hw
    refine zz_iload dX5_longestWalk_62 rfl ?_
    refine zz_iload_n dX5_longestWalk_64 rfl ?_
    refine zz_icmp_ge (tgt := 130) dX5_longestWalk_65 (by decide) (fun h => absurd h (nI_ge (by omega) (by omega))) (fun _ => ?_)
    refine zz_aload_n dX5_longestWalk_68 rfl ?_
    refine zz_get (ci := 5) (j := 11) zz_inX5 rfl zw_f_X5_42 rfl (by decide) dX5_longestWalk_69 (by omega) pm_o rfl ?_
    refine zz_iload dX5_longestWalk_72 rfl ?_
    refine zl_mi dX5_longestWalk_74 (by omega) (by omega) ?_
    rw [hI.1 i (by omega)]
    refine zz_istore dX5_longestWalk_75 (by decide) ?_
    refine zz_aload_n dX5_longestWalk_77 rfl ?_
    refine zz_iload_n dX5_longestWalk_78 rfl ?_
    refine zz_iload dX5_longestWalk_79 rfl ?_
    refine zz_iload dX5_longestWalk_81 rfl ?_
    refine zz_callV1 (ci := 5) (m_leads hr (show (orX (rl MB r) n i) < 80 by omega) (show (orX (rl MB r) n p) < 80 by omega)) dX5_longestWalk_83 zw_m_X5_66 wYX5_leads wDX5_leads rfl (by omega) pm_o rfl (Nat.le_of_ble_eq_true rfl) (by decide) rfl ?_
    refine zz_if_eq (tgt := 124) dX5_longestWalk_86 (by decide) (fun h86 => ?_) (fun h86 => ?_)
    · refine zz_iinc (v := nI (i + 1)) dX5_longestWalk_124 rfl (nI_1 i) (by decide) ?_
      refine zz_goto (tgt := 62) dX5_longestWalk_127 (by decide) ?_
      first
        | exact zz_lvs (by intro q hq; simp only [List.mem_cons, List.not_mem_nil, or_false] at hq; rcases hq with rfl | rfl | rfl | rfl | rfl | rfl <;> simp [zz_up1, zz_up2, Value.category]) (ih (i + 1) (by omega) MI c hI hc hw (lw_a hall (fun hR => absurd ((zB_0.mp h86).symm.trans hR) (by decide))))
        | exact zz_lvs (by intro q hq; simp only [List.mem_cons, List.not_mem_nil, or_false] at hq; rcases hq with rfl | rfl | rfl | rfl | rfl | rfl <;> simp [zz_up1, zz_up2, Value.category]) (ih (i + 1) (by omega) MI c hI hc hw (lw_a hall (fun _ => (nI_leI (by omega) (by omega)).mp h105)))
        | exact zz_lvs (by intro q hq; simp only [List.mem_cons, List.not_mem_nil, or_false] at hq; rcases hq with rfl | rfl | rfl | rfl | rfl | rfl <;> simp [zz_up1, zz_up2, Value.category]) (ih (i + 1) (by omega) _ (l i + 1) (lwI_u hI hXp _) (by rw [up_at, up_at]) (weB_s.mpr ⟨_, hXi, (hI.2 i hip).2.1, zB_n.mp h86⟩) (lw_b hall (Nat.lt_of_not_le (fun q => h105 (nI_le q (by omega))))))
    · refine zz_aload_n dX5_longestWalk_89 rfl ?_
      refine zz_get (ci := 5) (j := 12) zz_inX5 rfl zw_f_X5_45 rfl (by decide) dX5_longestWalk_90 (by omega) pm_o rfl ?_
      refine zz_iload dX5_longestWalk_93 rfl ?_
      refine zl_mi dX5_longestWalk_95 (by omega) (by omega) ?_
      rw [(hI.2 i hip).1]
      refine zz_iconst (v := 1) dX5_longestWalk_96 (by decide) ?_
      refine zz_iadd dX5_longestWalk_97 ?_
      rw [nI_1]
      refine zz_aload_n dX5_longestWalk_98 rfl ?_
      refine zz_get (ci := 5) (j := 12) zz_inX5 rfl zw_f_X5_45 rfl (by decide) dX5_longestWalk_99 (by omega) pm_o rfl ?_
      refine zz_iload dX5_longestWalk_102 rfl ?_
      refine zl_mi dX5_longestWalk_104 (by omega) (by omega) ?_
      rw [hc]
      refine zz_icmp_le (tgt := 124) dX5_longestWalk_105 (by decide) (fun h105 => ?_) (fun h105 => ?_)
      · refine zz_iinc (v := nI (i + 1)) dX5_longestWalk_124 rfl (nI_1 i) (by decide) ?_
        refine zz_goto (tgt := 62) dX5_longestWalk_127 (by decide) ?_
        first
          | exact zz_lvs (by intro q hq; simp only [List.mem_cons, List.not_mem_nil, or_false] at hq; rcases hq with rfl | rfl | rfl | rfl | rfl | rfl <;> simp [zz_up1, zz_up2, Value.category]) (ih (i + 1) (by omega) MI c hI hc hw (lw_a hall (fun hR => absurd ((zB_0.mp h86).symm.trans hR) (by decide))))
          | exact zz_lvs (by intro q hq; simp only [List.mem_cons, List.not_mem_nil, or_false] at hq; rcases hq with rfl | rfl | rfl | rfl | rfl | rfl <;> simp [zz_up1, zz_up2, Value.category]) (ih (i + 1) (by omega) MI c hI hc hw (lw_a hall (fun _ => (nI_leI (by omega) (by omega)).mp h105)))
          | exact zz_lvs (by intro q hq; simp only [List.mem_cons, List.not_mem_nil, or_false] at hq; rcases hq with rfl | rfl | rfl | rfl | rfl | rfl <;> simp [zz_up1, zz_up2, Value.category]) (ih (i + 1) (by omega) _ (l i + 1) (lwI_u hI hXp _) (by rw [up_at, up_at]) (weB_s.mpr ⟨_, hXi, (hI.2 i hip).2.1, zB_n.mp h86⟩) (lw_b hall (Nat.lt_of_not_le (fun q => h105 (nI_le q (by omega))))))
      · refine zz_aload_n dX5_longestWalk_108 rfl ?_
        refine zz_get (ci := 5) (j := 12) zz_inX5 rfl zw_f_X5_45 rfl (by decide) dX5_longestWalk_109 (by omega) pm_o rfl ?_
        refine zz_iload dX5_longestWalk_112 rfl ?_
        refine zz_aload_n dX5_longestWalk_114 rfl ?_
        refine zz_get (ci := 5) (j := 12) zz_inX5 rfl zw_f_X5_45 rfl (by decide) dX5_longestWalk_115 (by omega) pm_o rfl ?_
        refine zz_iload dX5_longestWalk_118 rfl ?_
        refine zl_mi dX5_longestWalk_120 (by omega) (by omega) ?_
        rw [(hI.2 i hip).1]
        refine zz_iconst (v := 1) dX5_longestWalk_121 (by decide) ?_
        refine zz_iadd dX5_longestWalk_122 ?_
        rw [nI_1]
        refine zs_mi dX5_longestWalk_123 (by omega) (by omega) ?_
        refine zz_iinc (v := nI (i + 1)) dX5_longestWalk_124 rfl (nI_1 i) (by decide) ?_
        refine zz_goto (tgt := 62) dX5_longestWalk_127 (by decide) ?_
        first
          | exact zz_lvs (by intro q hq; simp only [List.mem_cons, List.not_mem_nil, or_false] at hq; rcases hq with rfl | rfl | rfl | rfl | rfl | rfl <;> simp [zz_up1, zz_up2, Value.category]) (ih (i + 1) (by omega) MI c hI hc hw (lw_a hall (fun hR => absurd ((zB_0.mp h86).symm.trans hR) (by decide))))
          | exact zz_lvs (by intro q hq; simp only [List.mem_cons, List.not_mem_nil, or_false] at hq; rcases hq with rfl | rfl | rfl | rfl | rfl | rfl <;> simp [zz_up1, zz_up2, Value.category]) (ih (i + 1) (by omega) MI c hI hc hw (lw_a hall (fun _ => (nI_leI (by omega) (by omega)).mp h105)))
          | exact zz_lvs (by intro q hq; simp only [List.mem_cons, List.not_mem_nil, or_false] at hq; rcases hq with rfl | rfl | rfl | rfl | rfl | rfl <;> simp [zz_up1, zz_up2, Value.category]) (ih (i + 1) (by omega) _ (l i + 1) (lwI_u hI hXp _) (by rw [up_at, up_at]) (weB_s.mpr ⟨_, hXi, (hI.2 i hip).2.1, zB_n.mp h86⟩) (lw_b hall (Nat.lt_of_not_le (fun q => h105 (nI_le q (by omega))))))
set_option maxHeartbeats 1000000 in
set_option maxRecDepth 20000 in
theorem ml_lwO {r : Nat} (hr : r < 4) (hn : n ≤ 80) (ho : orN (rl MB r) n = n) : ∀ (m i : Nat), i + m = n → ∀ (MI : Nat → Nat → Int32) (l : Nat → Nat) (b : Nat), lwI (rl MB r) n MI l i → (∀ j, j < i → l j ≤ b) → (∃ e, e < n ∧ weB (rl MB r) n b e = true) → b ≤ n → zz_E mX5_longestWalk none 4 0 0 (fun o τ => ∃ b, b ≤ n ∧ lwS (rl MB r) n b ∧ zmQ n T (MB 55) (MB 56) 0 (some (.int (nI b))) o τ) 35 [(3, .int (nI i)), (2, .int (nI b)), (0, .ref 54), (1, .int (nI r))] [] (pm MB MI (nI n) mt T) := by
  intro m
  induction m with
  | zero =>
    intro i hi MI l b hI hlb hb hbn
    have hi : n = i := by omega
    subst hi
    refine zz_iload_n dX5_longestWalk_35 rfl ?_
    refine zz_aload_n dX5_longestWalk_36 rfl ?_
    refine zz_get (ci := 5) (j := 2) zz_inX5 rfl zw_f_X5_16 rfl (by decide) dX5_longestWalk_37 (by omega) pm_o rfl ?_
    refine zz_icmp_ge (tgt := 159) dX5_longestWalk_40 (by decide) (fun _ => ?_) (fun h => absurd (nI_le (by omega) (by omega)) h)
    refine zz_aload_n dX5_longestWalk_159 rfl ?_
    refine zz_iload_n dX5_longestWalk_160 rfl ?_
    refine zz_callV1 (ci := 5) (m_told _) dX5_longestWalk_161 zw_m_X5_80 wYX5_told wDX5_told rfl (by omega) pm_o rfl (Nat.le_of_ble_eq_true rfl) (by decide) rfl ?_
    refine zz_iret dX5_longestWalk_164 rfl ?_
    refine ⟨b, hbn, ⟨hb, fun m e he hm => ?_⟩, rfl, MB, MI, rfl, rfl, rfl⟩
    obtain ⟨j, hj, hq⟩ := orX_all ho he
    have q1 := (hI.2 j hj).2.2 m (by rw [hq]; exact hm)
    have q2 := hlb j hj
    omega
  | succ m ih =>
    intro i hi MI l b hI hlb hb hbn
    have hX := orN_n ho
    have hXi := hX i (by omega)
    refine zz_iload_n dX5_longestWalk_35 rfl ?_
    refine zz_aload_n dX5_longestWalk_36 rfl ?_
    refine zz_get (ci := 5) (j := 2) zz_inX5 rfl zw_f_X5_16 rfl (by decide) dX5_longestWalk_37 (by omega) pm_o rfl ?_
    refine zz_icmp_ge (tgt := 159) dX5_longestWalk_40 (by decide) (fun h => absurd h (nI_ge (by omega) (by omega))) (fun _ => ?_)
    refine zz_aload_n dX5_longestWalk_43 rfl ?_
    refine zz_get (ci := 5) (j := 11) zz_inX5 rfl zw_f_X5_42 rfl (by decide) dX5_longestWalk_44 (by omega) pm_o rfl ?_
    refine zz_iload_n dX5_longestWalk_47 rfl ?_
    refine zl_mi dX5_longestWalk_48 (by omega) (by omega) ?_
    rw [hI.1 i (by omega)]
    refine zz_istore dX5_longestWalk_49 (by decide) ?_
    refine zz_aload_n dX5_longestWalk_51 rfl ?_
    refine zz_get (ci := 5) (j := 12) zz_inX5 rfl zw_f_X5_45 rfl (by decide) dX5_longestWalk_52 (by omega) pm_o rfl ?_
    refine zz_iload dX5_longestWalk_55 rfl ?_
    refine zz_iconst (v := 0) dX5_longestWalk_57 (by decide) ?_
    refine zs_mi dX5_longestWalk_58 (by omega) (by omega) ?_
    refine zz_iconst (v := 0) dX5_longestWalk_59 (by decide) ?_
    refine zz_istore dX5_longestWalk_60 (by decide) ?_
    refine zz_lvs (lv2 := [(5, .int (nI 0)), (4, .int (nI (orX (rl MB r) n i))), (3, .int (nI i)), (2, .int (nI b)), (0, .ref 54), (1, .int (nI r))]) (fun q hq => by simp only [List.mem_cons, List.not_mem_nil, or_false] at hq; rcases hq with rfl | rfl | rfl | rfl | rfl | rfl <;> simp [zz_up1, zz_up2, Value.category, nI_0]) ?_
    refine ml_lwI (MB := MB) hr hn (p := i) (b := b) (by omega) (l := l) hX ?_ i 0 (by omega) _ 0 (lwI_u hI hXi _) (by rw [up_at, up_at]; rfl) rfl (fun j hj => absurd hj (Nat.not_lt_zero j))
    intro MI c hI hc hw hall
    have hcp := or_we hXi hw
    have hM := lwI_n hI hXi hc hw hall
    refine zz_aload_n dX5_longestWalk_130 rfl ?_
    refine zz_get (ci := 5) (j := 12) zz_inX5 rfl zw_f_X5_45 rfl (by decide) dX5_longestWalk_131 (by omega) pm_o rfl ?_
    refine zz_iload dX5_longestWalk_134 rfl ?_
    refine zl_mi dX5_longestWalk_136 (by omega) (by omega) ?_
    rw [hc]
    refine zz_iload_n dX5_longestWalk_137 rfl ?_
    refine zz_icmp_le (tgt := 151) dX5_longestWalk_138 (by decide) (fun h138 => ?_) (fun h138 => ?_)
    · refine zz_iload_n dX5_longestWalk_151 rfl ?_
      refine zz_istore_n dX5_longestWalk_152 (by decide) ?_
      refine zz_iinc (v := nI (i + 1)) dX5_longestWalk_153 rfl (nI_1 i) (by decide) ?_
      refine zz_goto (tgt := 35) dX5_longestWalk_156 (by decide) ?_
      first
        | exact zz_lvs (by intro q hq; simp only [List.mem_cons, List.not_mem_nil, or_false] at hq; rcases hq with rfl | rfl | rfl | rfl <;> simp [zz_up1, zz_up2, Value.category, f4_2, f4_3]) (ih (i + 1) (by omega) MI (va_up l i c) b hM (lw_m hlb ((nI_leI (by omega) (by omega)).mp h138)) hb hbn)
        | exact zz_lvs (by intro q hq; simp only [List.mem_cons, List.not_mem_nil, or_false] at hq; rcases hq with rfl | rfl | rfl | rfl <;> simp [zz_up1, zz_up2, Value.category, f4_2, f4_3]) (ih (i + 1) (by omega) MI (va_up l i c) c hM (lw_m (fun j hj => Nat.le_trans (hlb j hj) (Nat.le_of_lt (Nat.lt_of_not_le (fun q => h138 (nI_le q (by omega)))))) (Nat.le_refl c)) ⟨_, hXi, hw⟩ (by omega))
    · refine zz_aload_n dX5_longestWalk_141 rfl ?_
      refine zz_get (ci := 5) (j := 12) zz_inX5 rfl zw_f_X5_45 rfl (by decide) dX5_longestWalk_142 (by omega) pm_o rfl ?_
      refine zz_iload dX5_longestWalk_145 rfl ?_
      refine zl_mi dX5_longestWalk_147 (by omega) (by omega) ?_
      rw [hc]
      refine zz_goto (tgt := 152) dX5_longestWalk_148 (by decide) ?_
      refine zz_istore_n dX5_longestWalk_152 (by decide) ?_
      refine zz_iinc (v := nI (i + 1)) dX5_longestWalk_153 rfl (nI_1 i) (by decide) ?_
      refine zz_goto (tgt := 35) dX5_longestWalk_156 (by decide) ?_
      first
        | exact zz_lvs (by intro q hq; simp only [List.mem_cons, List.not_mem_nil, or_false] at hq; rcases hq with rfl | rfl | rfl | rfl <;> simp [zz_up1, zz_up2, Value.category, f4_2, f4_3]) (ih (i + 1) (by omega) MI (va_up l i c) b hM (lw_m hlb ((nI_leI (by omega) (by omega)).mp h138)) hb hbn)
        | exact zz_lvs (by intro q hq; simp only [List.mem_cons, List.not_mem_nil, or_false] at hq; rcases hq with rfl | rfl | rfl | rfl <;> simp [zz_up1, zz_up2, Value.category, f4_2, f4_3]) (ih (i + 1) (by omega) MI (va_up l i c) c hM (lw_m (fun j hj => Nat.le_trans (hlb j hj) (Nat.le_of_lt (Nat.lt_of_not_le (fun q => h138 (nI_le q (by omega)))))) (Nat.le_refl c)) ⟨_, hXi, hw⟩ (by omega))
set_option maxHeartbeats 1000000 in
set_option maxRecDepth 20000 in
theorem m_lw_v {r : Nat} (hr : r < 4) (hn : n ≤ 80) (h1 : 1 ≤ n) (ho : orN (rl MB r) n = n) : zz_C mX5_longestWalk 4 0 0 [.ref 54, .int (nI r)] (pm MB MI (nI n) mt T) (fun o τ => ∃ b, b ≤ n ∧ lwS (rl MB r) n b ∧ zmQ n T (MB 55) (MB 56) 0 (some (.int (nI b))) o τ) := by
  have e1 := isR_t hr
  · refine zz_start wPX5_longestWalk rfl rfl (Nat.le_of_ble_eq_true rfl) ?_
    refine zz_iload_n dX5_longestWalk_0 rfl ?_
    refine zz_callS1 (m_isR _) dX5_longestWalk_1 zw_m_X5_55 wYX5_isRelation wDX5_isRelation rfl (Nat.le_of_ble_eq_true rfl) (by decide) rfl ?_
    refine zz_if_ne (tgt := 13) dX5_longestWalk_4 (by decide) (fun _ => ?_) (fun q => absurd q (by rw [e1]; decide))
    refine zz_aload_n dX5_longestWalk_13 rfl ?_
    refine zz_iload_n dX5_longestWalk_14 rfl ?_
    refine zz_callV (ci := 5) (m_orders hr hn h1) dX5_longestWalk_15 zw_m_X5_128 wYX5_orders wDX5_orders rfl (by omega) pm_o rfl (Nat.le_of_ble_eq_true rfl) (by decide) (by omega) (by omega) rfl ?_ (fun E τ hE => by cases hE.1)
    rintro v9 τ9 ⟨hv9, S2, MI2, hord, rfl⟩
    cases hv9
    refine zz_aload_n dX5_longestWalk_18 rfl ?_
    refine zz_get (ci := 5) (j := 2) zz_inX5 rfl zw_f_X5_16 rfl (by decide) dX5_longestWalk_19 (by omega) pm_o rfl ?_
    refine zz_icmp_ge (tgt := 31) dX5_longestWalk_22 (by decide) (fun _ => ?_) (fun h => absurd (by rw [ho]; exact nI_le (Nat.le_refl n) (by omega)) h)
    refine zz_iconst (v := 0) dX5_longestWalk_31 (by decide) ?_
    refine zz_istore_n dX5_longestWalk_32 (by decide) ?_
    refine zz_iconst (v := 0) dX5_longestWalk_33 (by decide) ?_
    refine zz_istore_n dX5_longestWalk_34 (by decide) ?_
    refine zz_lvs (lv2 := [(3, .int (nI 0)), (2, .int (nI 0)), (0, .ref 54), (1, .int (nI r))]) (fun q hq => by simp only [List.mem_cons, List.not_mem_nil, or_false] at hq; rcases hq with rfl | rfl | rfl | rfl <;> simp [zz_up1, zz_up2, Value.category, nI_0, f4_2, f4_3, lv_args]) ?_
    refine ml_lwO (MB := va_up MB 60 S2) hr hn ho n 0 (by omega) MI2 (fun _ => 0) 0 ⟨fun j hj => hord j (by omega), fun j hj => absurd hj (Nat.not_lt_zero j)⟩ (fun j hj => absurd hj (Nat.not_lt_zero j)) ⟨0, by omega, rfl⟩ (Nat.zero_le n)
set_option maxHeartbeats 1000000 in
set_option maxRecDepth 20000 in
theorem m_lw_y {r : Nat} (hr : r < 4) (hn : n ≤ 80) (h1 : 1 ≤ n) (ho : orN (rl MB r) n < n) : zz_C mX5_longestWalk 4 0 0 [.ref 54, .int (nI r)] (pm MB MI (nI n) mt T) (zmQ n T (MB 55) (MB 56) 2 (some (.int 0))) := by
  have e1 := isR_t hr
  · refine zz_start wPX5_longestWalk rfl rfl (Nat.le_of_ble_eq_true rfl) ?_
    refine zz_iload_n dX5_longestWalk_0 rfl ?_
    refine zz_callS1 (m_isR _) dX5_longestWalk_1 zw_m_X5_55 wYX5_isRelation wDX5_isRelation rfl (Nat.le_of_ble_eq_true rfl) (by decide) rfl ?_
    refine zz_if_ne (tgt := 13) dX5_longestWalk_4 (by decide) (fun _ => ?_) (fun q => absurd q (by rw [e1]; decide))
    refine zz_aload_n dX5_longestWalk_13 rfl ?_
    refine zz_iload_n dX5_longestWalk_14 rfl ?_
    refine zz_callV (ci := 5) (m_orders hr hn h1) dX5_longestWalk_15 zw_m_X5_128 wYX5_orders wDX5_orders rfl (by omega) pm_o rfl (Nat.le_of_ble_eq_true rfl) (by decide) (by omega) (by omega) rfl ?_ (fun E τ hE => by cases hE.1)
    rintro v9 τ9 ⟨hv9, S2, MI2, hord, rfl⟩
    cases hv9
    refine zz_aload_n dX5_longestWalk_18 rfl ?_
    refine zz_get (ci := 5) (j := 2) zz_inX5 rfl zw_f_X5_16 rfl (by decide) dX5_longestWalk_19 (by omega) pm_o rfl ?_
    refine zz_icmp_ge (tgt := 31) dX5_longestWalk_22 (by decide) (fun h => absurd h (nI_ge ho (by omega))) (fun _ => ?_)
    refine zz_aload_n dX5_longestWalk_25 rfl ?_
    refine zz_iconst (v := 2) dX5_longestWalk_26 (by decide) ?_
    refine zz_callV1 (ci := 5) (m_refuse 2) dX5_longestWalk_27 zw_m_X5_77 wYX5_refuse wDX5_refuse rfl (by omega) pm_o rfl (Nat.le_of_ble_eq_true rfl) (by decide) rfl ?_
    refine zz_iret dX5_longestWalk_30 rfl ?_
    exact ⟨rfl, va_up MB 60 S2, MI2, rfl, rfl, rfl⟩
set_option maxHeartbeats 1000000 in
set_option maxRecDepth 20000 in
theorem m_lw_x {v : Int32} (h : isR v = false) : zz_C mX5_longestWalk 4 0 0 [.ref 54, .int v] (pm MB MI (nI n) mt T) (fun o τ => o = .inl (some (.int 0)) ∧ τ = pm MB MI (nI n) 1 T) := by
  · refine zz_start wPX5_longestWalk rfl rfl (Nat.le_of_ble_eq_true rfl) ?_
    refine zz_iload_n dX5_longestWalk_0 rfl ?_
    refine zz_callS1 (m_isR _) dX5_longestWalk_1 zw_m_X5_55 wYX5_isRelation wDX5_isRelation rfl (Nat.le_of_ble_eq_true rfl) (by decide) rfl ?_
    refine zz_if_ne (tgt := 13) dX5_longestWalk_4 (by decide) (fun q => absurd (by rw [h]; rfl) q) (fun _ => ?_)
    refine zz_aload_n dX5_longestWalk_7 rfl ?_
    refine zz_iconst (v := 1) dX5_longestWalk_8 (by decide) ?_
    refine zz_callV1 (ci := 5) (m_refuse 1) dX5_longestWalk_9 zw_m_X5_77 wYX5_refuse wDX5_refuse rfl (by omega) pm_o rfl (Nat.le_of_ble_eq_true rfl) (by decide) rfl ?_
    refine zz_iret dX5_longestWalk_12 rfl ?_
    exact ⟨rfl, rfl⟩
end ZZM12
