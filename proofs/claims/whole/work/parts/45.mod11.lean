section ZZM11
variable {MB : Nat → Nat → Bool} {MI : Nat → Nat → Int32} {n : Nat} {mt : Int32} {T : zz_St}
def cvB (S : Nat → Nat → Bool) (n i k : Nat) : Bool := S i k && alb (fun j => !(S i j) || !(S j k)) n
theorem cvB_c {S S' : Nat → Nat → Bool} {n i k : Nat} (h : ∀ a b, a < n → b < n → S a b = S' a b) (hi : i < n) (hk : k < n) : cvB S n i k = cvB S' n i k := by
  unfold cvB
  rw [h i k hi hk, alb_c (fun j hj => by rw [h i j hi hj, h j k hj hk])]
/-- the one before it, or itself, that is in its class -/
def lsN (S : Nat → Nat → Bool) (e : Nat) : Nat := ff (fun a => S a e && S e a) e 0
theorem lsN_le (S : Nat → Nat → Bool) (e : Nat) : lsN S e ≤ e := by
  have := ff_le (fun a => S a e && S e a) e 0
  show ff _ e 0 ≤ e
  omega
theorem and_ff {a b : Bool} (h : (a && b) = false) : b = false ∨ a = false := by revert h; cases a <;> cases b <;> decide
theorem lsN_c {S S' : Nat → Nat → Bool} {n e : Nat} (h : ∀ a b, a < n → b < n → S a b = S' a b) (he : e < n) : lsN S e = lsN S' e := ff_c (fun k _ hk => by rw [h k e (by omega) he, h e k he (by omega)])
set_option maxHeartbeats 1000000 in
set_option maxRecDepth 20000 in
theorem ml_cvJ {Q : zz_Q} (hn : n ≤ 80) {a b : Nat} (ha : a < n) (hb : b < n) (O : Nat → Bool) (K : zz_E mX5_covers none 0 0 0 Q 90 [(3, .int (zB (MB 57 (80 * a + b) && alb (fun j => !(MB 57 (80 * a + j)) || !(MB 57 (80 * j + b))) n))), (2, .int (nI b)), (1, .int (nI a)), (0, .ref 54)] [] (pm (va_up MB 58 O) MI (nI n) mt T)) : ∀ (m i : Nat), i + m = n → zz_E mX5_covers none 0 0 0 (Q) 35 [(4, .int (nI i)), (3, .int (zB (MB 57 (80 * a + b) && alb (fun j => !(MB 57 (80 * a + j)) || !(MB 57 (80 * j + b))) i))), (2, .int (nI b)), (1, .int (nI a)), (0, .ref 54)] [] (pm (va_up MB 58 O) MI (nI n) mt T) := by
  intro m
  induction m with
  | zero =>
    intro i hi
    have hi : n = i := by omega
    subst hi
    refine zz_iload dX5_covers_35 rfl ?_
    refine zz_aload_n dX5_covers_37 rfl ?_
    refine zz_get (ci := 5) (j := 2) zz_inX5 rfl zw_f_X5_16 rfl (by decide) dX5_covers_38 (by omega) pm_o rfl ?_
    refine zz_icmp_ge (tgt := 90) dX5_covers_41 (by decide) (fun _ => ?_) (fun h => absurd (nI_le (by omega) (by omega)) h)
    refine zz_lvs (lv2 := [(3, .int (zB (MB 57 (80 * a + b) && alb (fun j => !(MB 57 (80 * a + j)) || !(MB 57 (80 * j + b))) n))), (2, .int (nI b)), (1, .int (nI a)), (0, .ref 54)]) (fun q hq => by simp only [List.mem_cons, List.not_mem_nil, or_false] at hq; rcases hq with rfl | rfl | rfl | rfl <;> simp [zz_up1, zz_up2, Value.category]) ?_
    exact K
  | succ m ih =>
    intro i hi
    refine zz_iload dX5_covers_35 rfl ?_
    refine zz_aload_n dX5_covers_37 rfl ?_
    refine zz_get (ci := 5) (j := 2) zz_inX5 rfl zw_f_X5_16 rfl (by decide) dX5_covers_38 (by omega) pm_o rfl ?_
    refine zz_icmp_ge (tgt := 90) dX5_covers_41 (by decide) (fun h => absurd h (nI_ge (by omega) (by omega))) (fun _ => ?_)
    refine zz_iload_n dX5_covers_44 rfl ?_
    refine zz_if_eq (tgt := 90) dX5_covers_45 (by decide) (fun h45 => ?_) (fun h45 => ?_)
    · have e8 : alb (fun j => !(MB 57 (80 * a + j)) || !(MB 57 (80 * j + b))) i = false ∨ MB 57 (80 * a + b) = false := and_ff (zB_0.mp h45)
      have e9 : (MB 57 (80 * a + b) && alb (fun j => !(MB 57 (80 * a + j)) || !(MB 57 (80 * j + b))) n) = (MB 57 (80 * a + b) && alb (fun j => !(MB 57 (80 * a + j)) || !(MB 57 (80 * j + b))) i) := e8.elim (fun q => by rw [q, alb_m (show i ≤ n by omega) q]) (fun q => by rw [q]; rfl)
      rw [e9] at K
      refine zz_lvs (lv2 := [(3, .int (zB (MB 57 (80 * a + b) && alb (fun j => !(MB 57 (80 * a + j)) || !(MB 57 (80 * j + b))) i))), (2, .int (nI b)), (1, .int (nI a)), (0, .ref 54)]) (fun q hq => by simp only [List.mem_cons, List.not_mem_nil, or_false] at hq; rcases hq with rfl | rfl | rfl | rfl <;> simp [zz_up1, zz_up2, Value.category]) ?_
      exact K
    · refine zz_aload_n dX5_covers_48 rfl ?_
      refine zz_get (ci := 5) (j := 4) zz_inX5 rfl zw_f_X5_20 rfl (by decide) dX5_covers_49 (by omega) pm_o rfl ?_
      refine zz_bipush (v := 80) dX5_covers_52 (by decide) ?_
      refine zz_iload_n dX5_covers_54 rfl ?_
      refine zz_imul dX5_covers_55 ?_
      refine zz_iload dX5_covers_56 rfl ?_
      refine zz_iadd dX5_covers_58 ?_
      refine zz_tope (y := nI (80 * a + i)) (by simp only [i80, i6400, pk_mul, nI_add, nI_1]) ?_
      refine zl_mb dX5_covers_59 (by omega) (by simp only [ml55, ml56, ml57, ml58, ml59, ml60, ml61]; omega) (by simp only [ml55, ml56, ml57, ml58, ml59, ml60, ml61]; omega) ?_
      rw [up_ne _ _ (show (57 : Nat) ≠ 58 by decide)]
      refine zz_if_eq (tgt := 78) dX5_covers_60 (by decide) (fun h60 => ?_) (fun h60 => ?_)
      · refine zz_iconst (v := 1) dX5_covers_78 (by decide) ?_
        refine zz_goto (tgt := 83) dX5_covers_79 (by decide) ?_
        have e7 := bo_t (zB_n.mp h45)
        have e9 : (MB 57 (80 * a + b) && alb (fun j => !(MB 57 (80 * a + j)) || !(MB 57 (80 * j + b))) (i + 1)) = (!(MB 57 (80 * a + i)) || !(MB 57 (80 * i + b))) := by rw [e7.1, alb_s e7.2]; rfl
        refine zz_tope (y := zB (MB 57 (80 * a + b) && alb (fun j => !(MB 57 (80 * a + j)) || !(MB 57 (80 * j + b))) (i + 1))) (by rw [e9]; first | (rw [zB_0.mp h60]; rfl) | (rw [zB_n.mp h60, zB_n.mp h75]; rfl) | (rw [zB_n.mp h60, zB_0.mp h75]; rfl)) ?_
        refine zz_istore_n dX5_covers_83 (by decide) ?_
        refine zz_iinc (v := nI (i + 1)) dX5_covers_84 rfl (nI_1 i) (by decide) ?_
        refine zz_goto (tgt := 35) dX5_covers_87 (by decide) ?_
        have h9 := ih (i + 1) (by omega)
        refine zz_lvs (fun q hq => ?_) h9
        simp only [List.mem_cons, List.not_mem_nil, or_false] at hq
        rcases hq with rfl | rfl | rfl | rfl | rfl <;> simp [zz_up1, zz_up2, Value.category, f4_3]
      · refine zz_aload_n dX5_covers_63 rfl ?_
        refine zz_get (ci := 5) (j := 4) zz_inX5 rfl zw_f_X5_20 rfl (by decide) dX5_covers_64 (by omega) pm_o rfl ?_
        refine zz_bipush (v := 80) dX5_covers_67 (by decide) ?_
        refine zz_iload dX5_covers_69 rfl ?_
        refine zz_imul dX5_covers_71 ?_
        refine zz_iload_n dX5_covers_72 rfl ?_
        refine zz_iadd dX5_covers_73 ?_
        refine zz_tope (y := nI (80 * i + b)) (by simp only [i80, i6400, pk_mul, nI_add, nI_1]) ?_
        refine zl_mb dX5_covers_74 (by omega) (by simp only [ml55, ml56, ml57, ml58, ml59, ml60, ml61]; omega) (by simp only [ml55, ml56, ml57, ml58, ml59, ml60, ml61]; omega) ?_
        rw [up_ne _ _ (show (57 : Nat) ≠ 58 by decide)]
        refine zz_if_ne (tgt := 82) dX5_covers_75 (by decide) (fun h75 => ?_) (fun h75 => ?_)
        · refine zz_iconst (v := 0) dX5_covers_82 (by decide) ?_
          have e7 := bo_t (zB_n.mp h45)
          have e9 : (MB 57 (80 * a + b) && alb (fun j => !(MB 57 (80 * a + j)) || !(MB 57 (80 * j + b))) (i + 1)) = (!(MB 57 (80 * a + i)) || !(MB 57 (80 * i + b))) := by rw [e7.1, alb_s e7.2]; rfl
          refine zz_tope (y := zB (MB 57 (80 * a + b) && alb (fun j => !(MB 57 (80 * a + j)) || !(MB 57 (80 * j + b))) (i + 1))) (by rw [e9]; first | (rw [zB_0.mp h60]; rfl) | (rw [zB_n.mp h60, zB_n.mp h75]; rfl) | (rw [zB_n.mp h60, zB_0.mp h75]; rfl)) ?_
          refine zz_istore_n dX5_covers_83 (by decide) ?_
          refine zz_iinc (v := nI (i + 1)) dX5_covers_84 rfl (nI_1 i) (by decide) ?_
          refine zz_goto (tgt := 35) dX5_covers_87 (by decide) ?_
          have h9 := ih (i + 1) (by omega)
          refine zz_lvs (fun q hq => ?_) h9
          simp only [List.mem_cons, List.not_mem_nil, or_false] at hq
          rcases hq with rfl | rfl | rfl | rfl | rfl <;> simp [zz_up1, zz_up2, Value.category, f4_3]
        · refine zz_iconst (v := 1) dX5_covers_78 (by decide) ?_
          refine zz_goto (tgt := 83) dX5_covers_79 (by decide) ?_
          have e7 := bo_t (zB_n.mp h45)
          have e9 : (MB 57 (80 * a + b) && alb (fun j => !(MB 57 (80 * a + j)) || !(MB 57 (80 * j + b))) (i + 1)) = (!(MB 57 (80 * a + i)) || !(MB 57 (80 * i + b))) := by rw [e7.1, alb_s e7.2]; rfl
          refine zz_tope (y := zB (MB 57 (80 * a + b) && alb (fun j => !(MB 57 (80 * a + j)) || !(MB 57 (80 * j + b))) (i + 1))) (by rw [e9]; first | (rw [zB_0.mp h60]; rfl) | (rw [zB_n.mp h60, zB_n.mp h75]; rfl) | (rw [zB_n.mp h60, zB_0.mp h75]; rfl)) ?_
          refine zz_istore_n dX5_covers_83 (by decide) ?_
          refine zz_iinc (v := nI (i + 1)) dX5_covers_84 rfl (nI_1 i) (by decide) ?_
          refine zz_goto (tgt := 35) dX5_covers_87 (by decide) ?_
          have h9 := ih (i + 1) (by omega)
          refine zz_lvs (fun q hq => ?_) h9
          simp only [List.mem_cons, List.not_mem_nil, or_false] at hq
          rcases hq with rfl | rfl | rfl | rfl | rfl <;> simp [zz_up1, zz_up2, Value.category, f4_3]
set_option maxHeartbeats 1000000 in
set_option maxRecDepth 20000 in
theorem ml_cvI {Q : zz_Q} (hn : n ≤ 80) {a : Nat} (ha : a < n) {O : Nat → Bool} (K : zz_E mX5_covers none 0 0 0 Q 108 [(2, .int (nI n)), (1, .int (nI a)), (0, .ref 54)] [] (pm (va_up MB 58 (gs O 0 n a n (cvB (fun i k => MB 57 (80 * i + k)) n))) MI (nI n) mt T)) : ∀ (m i : Nat), i + m = n → zz_E mX5_covers none 0 0 0 (Q) 12 [(2, .int (nI i)), (1, .int (nI a)), (0, .ref 54)] [] (pm (va_up MB 58 (gs O 0 n a i (cvB (fun i k => MB 57 (80 * i + k)) n))) MI (nI n) mt T) := by
  intro m
  induction m with
  | zero =>
    intro i hi
    have hi : n = i := by omega
    subst hi
    refine zz_iload_n dX5_covers_12 rfl ?_
    refine zz_aload_n dX5_covers_13 rfl ?_
    refine zz_get (ci := 5) (j := 2) zz_inX5 rfl zw_f_X5_16 rfl (by decide) dX5_covers_14 (by omega) pm_o rfl ?_
    refine zz_icmp_ge (tgt := 108) dX5_covers_17 (by decide) (fun _ => ?_) (fun h => absurd (nI_le (by omega) (by omega)) h)
    exact K
  | succ m ih =>
    intro i hi
    refine zz_iload_n dX5_covers_12 rfl ?_
    refine zz_aload_n dX5_covers_13 rfl ?_
    refine zz_get (ci := 5) (j := 2) zz_inX5 rfl zw_f_X5_16 rfl (by decide) dX5_covers_14 (by omega) pm_o rfl ?_
    refine zz_icmp_ge (tgt := 108) dX5_covers_17 (by decide) (fun h => absurd h (nI_ge (by omega) (by omega))) (fun _ => ?_)
    refine zz_aload_n dX5_covers_20 rfl ?_
    refine zz_get (ci := 5) (j := 4) zz_inX5 rfl zw_f_X5_20 rfl (by decide) dX5_covers_21 (by omega) pm_o rfl ?_
    refine zz_bipush (v := 80) dX5_covers_24 (by decide) ?_
    refine zz_iload_n dX5_covers_26 rfl ?_
    refine zz_imul dX5_covers_27 ?_
    refine zz_iload_n dX5_covers_28 rfl ?_
    refine zz_iadd dX5_covers_29 ?_
    refine zz_tope (y := nI (80 * a + i)) (by simp only [i80, i6400, pk_mul, nI_add, nI_1]) ?_
    refine zl_mb dX5_covers_30 (by omega) (by simp only [ml55, ml56, ml57, ml58, ml59, ml60, ml61]; omega) (by simp only [ml55, ml56, ml57, ml58, ml59, ml60, ml61]; omega) ?_
    rw [up_ne _ _ (show (57 : Nat) ≠ 58 by decide)]
    refine zz_istore_n dX5_covers_31 (by decide) ?_
    refine zz_iconst (v := 0) dX5_covers_32 (by decide) ?_
    refine zz_istore dX5_covers_33 (by decide) ?_
    have e0 : MB 57 (80 * a + i) = (MB 57 (80 * a + i) && alb (fun j => !(MB 57 (80 * a + j)) || !(MB 57 (80 * j + i))) 0) := (Bool.and_true _).symm
    refine zz_lvs (lv2 := [(4, .int (nI 0)), (3, .int (zB (MB 57 (80 * a + i)))), (2, .int (nI i)), (1, .int (nI a)), (0, .ref 54)]) (fun q hq => by simp only [List.mem_cons, List.not_mem_nil, or_false] at hq; rcases hq with rfl | rfl | rfl | rfl | rfl <;> simp [zz_up1, zz_up2, Value.category, nI_0, f4_3]) ?_
    rw [e0]
    refine ml_cvJ hn ha (b := i) (by omega) _ ?_ n 0 (by omega)
    show zz_E mX5_covers none 0 0 0 Q 90 [(3, .int (zB (cvB (fun i k => MB 57 (80 * i + k)) n a i))), (2, .int (nI i)), (1, .int (nI a)), (0, .ref 54)] [] _
    refine zz_aload_n dX5_covers_90 rfl ?_
    refine zz_get (ci := 5) (j := 5) zz_inX5 rfl zw_f_X5_23 rfl (by decide) dX5_covers_91 (by omega) pm_o rfl ?_
    refine zz_bipush (v := 80) dX5_covers_94 (by decide) ?_
    refine zz_iload_n dX5_covers_96 rfl ?_
    refine zz_imul dX5_covers_97 ?_
    refine zz_iload_n dX5_covers_98 rfl ?_
    refine zz_iadd dX5_covers_99 ?_
    refine zz_tope (y := nI (80 * a + i)) (by simp only [i80, i6400, pk_mul, nI_add, nI_1]) ?_
    refine zz_iload_n dX5_covers_100 rfl ?_
    refine zs_mb dX5_covers_101 (by omega) (by simp only [ml55, ml56, ml57, ml58, ml59, ml60, ml61]; omega) (by simp only [ml55, ml56, ml57, ml58, ml59, ml60, ml61]; omega) ?_
    refine zz_iinc (v := nI (i + 1)) dX5_covers_102 rfl (nI_1 i) (by decide) ?_
    refine zz_goto (tgt := 12) dX5_covers_105 (by decide) ?_
    refine zz_lvs (lv2 := [(2, .int (nI (i + 1))), (1, .int (nI a)), (0, .ref 54)]) (fun q hq => by simp only [List.mem_cons, List.not_mem_nil, or_false] at hq; rcases hq with rfl | rfl | rfl <;> simp [zz_up1, zz_up2, Value.category, f4_2]) ?_
    have h9 := ih (i + 1) (by omega)
    rw [← gs0_s hn ha (show i < n by omega)] at h9
    simp only [up_at, up_up]
    exact h9
set_option maxHeartbeats 1000000 in
set_option maxRecDepth 20000 in
theorem ml_cvO (hn : n ≤ 80) {O : Nat → Bool} : ∀ (m i : Nat), i + m = n → zz_E mX5_covers none 0 0 0 (fun o τ => o = .inl none ∧ τ = pm (va_up MB 58 (gs O 0 n n 0 (cvB (fun i k => MB 57 (80 * i + k)) n))) MI (nI n) mt T) 2 [(1, .int (nI i)), (0, .ref 54)] [] (pm (va_up MB 58 (gs O 0 n i 0 (cvB (fun i k => MB 57 (80 * i + k)) n))) MI (nI n) mt T) := by
  intro m
  induction m with
  | zero =>
    intro i hi
    have hi : n = i := by omega
    subst hi
    refine zz_iload_n dX5_covers_2 rfl ?_
    refine zz_aload_n dX5_covers_3 rfl ?_
    refine zz_get (ci := 5) (j := 2) zz_inX5 rfl zw_f_X5_16 rfl (by decide) dX5_covers_4 (by omega) pm_o rfl ?_
    refine zz_icmp_ge (tgt := 114) dX5_covers_7 (by decide) (fun _ => ?_) (fun h => absurd (nI_le (by omega) (by omega)) h)
    refine zz_vret dX5_covers_114 rfl ?_
    exact ⟨rfl, rfl⟩
  | succ m ih =>
    intro i hi
    refine zz_iload_n dX5_covers_2 rfl ?_
    refine zz_aload_n dX5_covers_3 rfl ?_
    refine zz_get (ci := 5) (j := 2) zz_inX5 rfl zw_f_X5_16 rfl (by decide) dX5_covers_4 (by omega) pm_o rfl ?_
    refine zz_icmp_ge (tgt := 114) dX5_covers_7 (by decide) (fun h => absurd h (nI_ge (by omega) (by omega))) (fun _ => ?_)
    refine zz_iconst (v := 0) dX5_covers_10 (by decide) ?_
    refine zz_istore_n dX5_covers_11 (by decide) ?_
    refine ml_cvI hn (a := i) (by omega) ?_ n 0 (by omega)
    refine zz_iinc (v := nI (i + 1)) dX5_covers_108 rfl (nI_1 i) (by decide) ?_
    refine zz_goto (tgt := 2) dX5_covers_111 (by decide) ?_
    refine zz_lvs (lv2 := [(1, .int (nI (i + 1))), (0, .ref 54)]) (fun q hq => by simp only [List.mem_cons, List.not_mem_nil, or_false] at hq; rcases hq with rfl | rfl <;> simp [zz_up1, zz_up2, Value.category, f4_1]) ?_
    have h9 := ih (i + 1) (by omega)
    rw [← gs_row] at h9
    exact h9
set_option maxHeartbeats 1000000 in
set_option maxRecDepth 20000 in
theorem m_covers (hn : n ≤ 80) : zz_Dt mX5_covers 0 0 0 [.ref 54] (pm MB MI (nI n) mt T) (.inl none) (pm (va_up MB 58 (gs (MB 58) 0 n n 0 (cvB (fun i k => MB 57 (80 * i + k)) n))) MI (nI n) mt T) := by
  refine zz_start wPX5_covers rfl rfl (Nat.le_of_ble_eq_true rfl) ?_
  refine zz_iconst (v := 0) dX5_covers_0 (by decide) ?_
  refine zz_istore_n dX5_covers_1 (by decide) ?_
  have h9 := ml_cvO (MB := MB) (MI := MI) (mt := mt) (T := T) hn (O := MB 58) n 0 (by omega)
  rw [gs_0, up_self] at h9
  exact h9
set_option maxHeartbeats 1000000 in
set_option maxRecDepth 20000 in
theorem ml_cov {Q : zz_Q} {r w : Nat} {S : Nat → Bool} (K : zz_E mX5_cover none 5 0 0 Q 70 [(3, .int (nI 6400)), (0, .ref 54), (1, .int (nI r)), (2, .int (nI w))] [] (pm (va_up MB 57 (cpy 6400 (MB 58) S)) MI (nI n) mt T)) : ∀ (m i : Nat), i + m = 6400 → zz_E mX5_cover none 5 0 0 (Q) 45 [(3, .int (nI i)), (0, .ref 54), (1, .int (nI r)), (2, .int (nI w))] [] (pm (va_up MB 57 (cpy i (MB 58) S)) MI (nI n) mt T) := by
  intro m
  induction m with
  | zero =>
    intro i hi
    have hi : i = 6400 := by omega
    subst hi
    refine zz_iload_n dX5_cover_45 rfl ?_
    refine zz_sipush (v := 6400) dX5_cover_46 (by decide) ?_
    refine zz_icmp_ge (tgt := 70) dX5_cover_49 (by decide) (fun _ => ?_) (fun h => absurd (nI_le (a := 6400) (by omega) (by omega)) h)
    exact K
  | succ m ih =>
    intro i hi
    refine zz_iload_n dX5_cover_45 rfl ?_
    refine zz_sipush (v := 6400) dX5_cover_46 (by decide) ?_
    refine zz_icmp_ge (tgt := 70) dX5_cover_49 (by decide) (fun h => absurd h (nI_ge (b := 6400) (by omega) (by omega))) (fun _ => ?_)
    refine zz_aload_n dX5_cover_52 rfl ?_
    refine zz_get (ci := 5) (j := 4) zz_inX5 rfl zw_f_X5_20 rfl (by decide) dX5_cover_53 (by omega) pm_o rfl ?_
    refine zz_iload_n dX5_cover_56 rfl ?_
    refine zz_aload_n dX5_cover_57 rfl ?_
    refine zz_get (ci := 5) (j := 5) zz_inX5 rfl zw_f_X5_23 rfl (by decide) dX5_cover_58 (by omega) pm_o rfl ?_
    refine zz_iload_n dX5_cover_61 rfl ?_
    refine zl_mb dX5_cover_62 (by omega) (by simp only [ml55, ml56, ml57, ml58, ml59, ml60, ml61]; omega) (by simp only [ml55, ml56, ml57, ml58, ml59, ml60, ml61]; omega) ?_
    rw [up_ne _ _ (show (58 : Nat) ≠ 57 by decide)]
    refine zs_mb dX5_cover_63 (by omega) (by simp only [ml55, ml56, ml57, ml58, ml59, ml60, ml61]; omega) (by simp only [ml55, ml56, ml57, ml58, ml59, ml60, ml61]; omega) ?_
    refine zz_iinc (v := nI (i + 1)) dX5_cover_64 rfl (nI_1 i) (by decide) ?_
    refine zz_goto (tgt := 45) dX5_cover_67 (by decide) ?_
    have h9 := ih (i + 1) (by omega)
    rw [← cpy_s i] at h9
    simp only [up_at, up_up]
    exact h9
set_option maxHeartbeats 1000000 in
set_option maxRecDepth 20000 in
theorem m_cover_v {r w : Nat} (hr : r < 4) (hw : w < 4) (hn : n ≤ 80) (hg : (anb (fun k => rchB (rl MB r) n k k) n) = false) : zz_C mX5_cover 5 0 0 [.ref 54, .int (nI r), .int (nI w)] (pm MB MI (nI n) mt T) (zmQ n T (gs (MB 55) w n n 0 (cvB (rchB (rl MB r) n) n)) (MB 56) 0 (some (.int (nI (prB (gs (MB 55) w n n 0 (cvB (rchB (rl MB r) n) n)) n w))))) := by
  have e1 := isR_t hr
  have e2 := isR_t hw
  · refine zz_start wPX5_cover rfl rfl (Nat.le_of_ble_eq_true rfl) ?_
    refine zz_iload_n dX5_cover_0 rfl ?_
    refine zz_callS1 (m_isR _) dX5_cover_1 zw_m_X5_55 wYX5_isRelation wDX5_isRelation rfl (Nat.le_of_ble_eq_true rfl) (by decide) rfl ?_
    refine zz_if_eq (tgt := 14) dX5_cover_4 (by decide) (fun q => absurd q (by rw [e1]; decide)) (fun _ => ?_)
    refine zz_iload_n dX5_cover_7 rfl ?_
    refine zz_callS1 (m_isR _) dX5_cover_8 zw_m_X5_55 wYX5_isRelation wDX5_isRelation rfl (Nat.le_of_ble_eq_true rfl) (by decide) rfl ?_
    refine zz_if_ne (tgt := 20) dX5_cover_11 (by decide) (fun _ => ?_) (fun q => absurd q (by rw [e2]; decide))
    refine zz_aload_n dX5_cover_20 rfl ?_
    refine zz_iload_n dX5_cover_21 rfl ?_
    refine zz_callV (ci := 5) (m_ringed hr hn) dX5_cover_22 zw_m_X5_112 wYX5_isRinged wDX5_isRinged rfl (by omega) pm_o rfl (Nat.le_of_ble_eq_true rfl) (by decide) (by omega) (by omega) rfl ?_ (fun E τ hE => by cases hE.1)
    rintro v9 τ9 ⟨hv9, MI2, rfl⟩
    cases hv9
    refine zz_if_eq (tgt := 34) dX5_cover_25 (by decide) (fun _ => ?_) (fun q => absurd (by rw [hg]; rfl) q)
    refine zz_aload_n dX5_cover_34 rfl ?_
    refine zz_iload_n dX5_cover_35 rfl ?_
    refine zz_callV (ci := 5) (m_closes hr hn) dX5_cover_36 zw_m_X5_108 wYX5_closes wDX5_closes rfl (by omega) pm_o rfl (Nat.le_of_ble_eq_true rfl) (by decide) (by omega) (by omega) rfl ?_ (fun E τ hE => by cases hE.1)
    rintro v9 τ9 ⟨hv9, MI3, rfl⟩
    cases hv9
    refine zz_aload_n dX5_cover_39 rfl ?_
    refine zz_callV0 (ci := 5) (m_covers hn) dX5_cover_40 zw_m_X5_115 wYX5_covers wDX5_covers rfl (by omega) pm_o rfl (Nat.le_of_ble_eq_true rfl) (by decide) rfl ?_
    refine zz_iconst (v := 0) dX5_cover_43 (by decide) ?_
    refine zz_istore_n dX5_cover_44 (by decide) ?_
    have h9 := fun Q K => ml_cov (MB := va_up (va_up MB 57 (gs (MB 57) 0 n n 0 (rchB (rl MB r) n))) 58 (gs (MB 58) 0 n n 0 (cvB (fun i k => gs (MB 57) 0 n n 0 (rchB (rl MB r) n) (80 * i + k)) n))) (MI := MI3) (n := n) (mt := mt) (T := T) (Q := Q) (r := r) (w := w) (S := gs (MB 57) 0 n n 0 (rchB (rl MB r) n)) K 6400 0 (by omega)
    rw [cpy_0] at h9
    have e9 : va_up (va_up (va_up MB 57 (gs (MB 57) 0 n n 0 (rchB (rl MB r) n))) 58 (gs (MB 58) 0 n n 0 (cvB (fun i k => gs (MB 57) 0 n n 0 (rchB (rl MB r) n) (80 * i + k)) n))) 57 (gs (MB 57) 0 n n 0 (rchB (rl MB r) n)) = va_up (va_up MB 57 (gs (MB 57) 0 n n 0 (rchB (rl MB r) n))) 58 (gs (MB 58) 0 n n 0 (cvB (fun i k => gs (MB 57) 0 n n 0 (rchB (rl MB r) n) (80 * i + k)) n)) := by
      funext x
      unfold va_up
      by_cases q : x = 57 <;> by_cases q2 : x = 58 <;> simp [q, q2]
      
    rw [e9] at h9
    refine h9 _ ?_
    refine zz_aload_n dX5_cover_70 rfl ?_
    refine zz_aload_n dX5_cover_71 rfl ?_
    refine zz_iload_n dX5_cover_72 rfl ?_
    refine zz_callV1 (ci := 5) (m_lays hw hn) dX5_cover_73 zw_m_X5_102 wYX5_lays wDX5_lays rfl (by omega) pm_o rfl (Nat.le_of_ble_eq_true rfl) (by decide) rfl ?_
    refine zz_callV1 (ci := 5) (m_told _) dX5_cover_76 zw_m_X5_80 wYX5_told wDX5_told rfl (by omega) pm_o rfl (Nat.le_of_ble_eq_true rfl) (by decide) rfl ?_
    refine zz_iret dX5_cover_79 rfl ?_
    have e8 : gs (MB 55) w n n 0 (fun a b => cpy 6400 (gs (MB 58) 0 n n 0 (cvB (fun i k => gs (MB 57) 0 n n 0 (rchB (rl MB r) n) (80 * i + k)) n)) (gs (MB 57) 0 n n 0 (rchB (rl MB r) n)) (80 * a + b)) = gs (MB 55) w n n 0 (cvB (rchB (rl MB r) n) n) := gs_c (fun a b ha hb => by
      rw [cpy_lt (by omega), gs0_get hn ha hb]
      exact cvB_c (fun a b ha hb => gs0_get hn ha hb) ha hb)
    refine ⟨?_, _, MI3, ?_, ?_, rfl⟩
    · simp only [up_at, up_ne _ _ (show (55 : Nat) ≠ 57 by decide), up_ne _ _ (show (55 : Nat) ≠ 58 by decide), up_ne _ _ (show (58 : Nat) ≠ 57 by decide), up_ne _ _ (show (57 : Nat) ≠ 58 by decide), up_ne _ _ (show (56 : Nat) ≠ 55 by decide), up_ne _ _ (show (56 : Nat) ≠ 57 by decide), up_ne _ _ (show (56 : Nat) ≠ 58 by decide)]
      rw [e8]
      rfl
    · simp only [up_at, up_ne _ _ (show (55 : Nat) ≠ 57 by decide), up_ne _ _ (show (55 : Nat) ≠ 58 by decide), up_ne _ _ (show (58 : Nat) ≠ 57 by decide), up_ne _ _ (show (57 : Nat) ≠ 58 by decide), up_ne _ _ (show (56 : Nat) ≠ 55 by decide), up_ne _ _ (show (56 : Nat) ≠ 57 by decide), up_ne _ _ (show (56 : Nat) ≠ 58 by decide)]
      exact e8
    · simp only [up_at, up_ne _ _ (show (55 : Nat) ≠ 57 by decide), up_ne _ _ (show (55 : Nat) ≠ 58 by decide), up_ne _ _ (show (58 : Nat) ≠ 57 by decide), up_ne _ _ (show (57 : Nat) ≠ 58 by decide), up_ne _ _ (show (56 : Nat) ≠ 55 by decide), up_ne _ _ (show (56 : Nat) ≠ 57 by decide), up_ne _ _ (show (56 : Nat) ≠ 58 by decide)]
set_option maxHeartbeats 1000000 in
set_option maxRecDepth 20000 in
theorem m_cover_y {r w : Nat} (hr : r < 4) (hw : w < 4) (hn : n ≤ 80) (hg : (anb (fun k => rchB (rl MB r) n k k) n) = true) : zz_C mX5_cover 5 0 0 [.ref 54, .int (nI r), .int (nI w)] (pm MB MI (nI n) mt T) (zmQ n T (MB 55) (MB 56) 2 (some (.int 0))) := by
  have e1 := isR_t hr
  have e2 := isR_t hw
  · refine zz_start wPX5_cover rfl rfl (Nat.le_of_ble_eq_true rfl) ?_
    refine zz_iload_n dX5_cover_0 rfl ?_
    refine zz_callS1 (m_isR _) dX5_cover_1 zw_m_X5_55 wYX5_isRelation wDX5_isRelation rfl (Nat.le_of_ble_eq_true rfl) (by decide) rfl ?_
    refine zz_if_eq (tgt := 14) dX5_cover_4 (by decide) (fun q => absurd q (by rw [e1]; decide)) (fun _ => ?_)
    refine zz_iload_n dX5_cover_7 rfl ?_
    refine zz_callS1 (m_isR _) dX5_cover_8 zw_m_X5_55 wYX5_isRelation wDX5_isRelation rfl (Nat.le_of_ble_eq_true rfl) (by decide) rfl ?_
    refine zz_if_ne (tgt := 20) dX5_cover_11 (by decide) (fun _ => ?_) (fun q => absurd q (by rw [e2]; decide))
    refine zz_aload_n dX5_cover_20 rfl ?_
    refine zz_iload_n dX5_cover_21 rfl ?_
    refine zz_callV (ci := 5) (m_ringed hr hn) dX5_cover_22 zw_m_X5_112 wYX5_isRinged wDX5_isRinged rfl (by omega) pm_o rfl (Nat.le_of_ble_eq_true rfl) (by decide) (by omega) (by omega) rfl ?_ (fun E τ hE => by cases hE.1)
    rintro v9 τ9 ⟨hv9, MI2, rfl⟩
    cases hv9
    refine zz_if_eq (tgt := 34) dX5_cover_25 (by decide) (fun q => absurd q (by rw [hg]; decide)) (fun _ => ?_)
    refine zz_aload_n dX5_cover_28 rfl ?_
    refine zz_iconst (v := 2) dX5_cover_29 (by decide) ?_
    refine zz_callV1 (ci := 5) (m_refuse 2) dX5_cover_30 zw_m_X5_77 wYX5_refuse wDX5_refuse rfl (by omega) pm_o rfl (Nat.le_of_ble_eq_true rfl) (by decide) rfl ?_
    refine zz_iret dX5_cover_33 rfl ?_
    exact ⟨rfl, MB, MI2, rfl, rfl, rfl⟩
set_option maxHeartbeats 1000000 in
set_option maxRecDepth 20000 in
theorem m_cover_x {v u : Int32} (h : (isR v && isR u) = false) : zz_C mX5_cover 5 0 0 [.ref 54, .int v, .int u] (pm MB MI (nI n) mt T) (fun o τ => o = .inl (some (.int 0)) ∧ τ = pm MB MI (nI n) 1 T) := by
  rcases and_f h with h1 | ⟨h1, h2⟩
  · refine zz_start wPX5_cover rfl rfl (Nat.le_of_ble_eq_true rfl) ?_
    refine zz_iload_n dX5_cover_0 rfl ?_
    refine zz_callS1 (m_isR _) dX5_cover_1 zw_m_X5_55 wYX5_isRelation wDX5_isRelation rfl (Nat.le_of_ble_eq_true rfl) (by decide) rfl ?_
    refine zz_if_eq (tgt := 14) dX5_cover_4 (by decide) (fun _ => ?_) (fun q => absurd (by rw [h1]; rfl) q)
    refine zz_aload_n dX5_cover_14 rfl ?_
    refine zz_iconst (v := 1) dX5_cover_15 (by decide) ?_
    refine zz_callV1 (ci := 5) (m_refuse 1) dX5_cover_16 zw_m_X5_77 wYX5_refuse wDX5_refuse rfl (by omega) pm_o rfl (Nat.le_of_ble_eq_true rfl) (by decide) rfl ?_
    refine zz_iret dX5_cover_19 rfl ?_
    exact ⟨rfl, rfl⟩
  · refine zz_start wPX5_cover rfl rfl (Nat.le_of_ble_eq_true rfl) ?_
    refine zz_iload_n dX5_cover_0 rfl ?_
    refine zz_callS1 (m_isR _) dX5_cover_1 zw_m_X5_55 wYX5_isRelation wDX5_isRelation rfl (Nat.le_of_ble_eq_true rfl) (by decide) rfl ?_
    refine zz_if_eq (tgt := 14) dX5_cover_4 (by decide) (fun q => absurd q (by rw [h1]; decide)) (fun _ => ?_)
    refine zz_iload_n dX5_cover_7 rfl ?_
    refine zz_callS1 (m_isR _) dX5_cover_8 zw_m_X5_55 wYX5_isRelation wDX5_isRelation rfl (Nat.le_of_ble_eq_true rfl) (by decide) rfl ?_
    refine zz_if_ne (tgt := 20) dX5_cover_11 (by decide) (fun q => absurd (by rw [h2]; rfl) q) (fun _ => ?_)
    refine zz_aload_n dX5_cover_14 rfl ?_
    refine zz_iconst (v := 1) dX5_cover_15 (by decide) ?_
    refine zz_callV1 (ci := 5) (m_refuse 1) dX5_cover_16 zw_m_X5_77 wYX5_refuse wDX5_refuse rfl (by omega) pm_o rfl (Nat.le_of_ble_eq_true rfl) (by decide) rfl ?_
    refine zz_iret dX5_cover_19 rfl ?_
    exact ⟨rfl, rfl⟩
set_option maxHeartbeats 1000000 in
set_option maxRecDepth 20000 in
theorem m_hasRing_v {r : Nat} (hr : r < 4) (hn : n ≤ 80) : zz_C mX5_hasRing 4 0 0 [.ref 54, .int (nI r)] (pm MB MI (nI n) mt T) (zmQ n T (MB 55) (MB 56) 0 (some (.int (zB (anb (fun k => rchB (rl MB r) n k k) n))))) := by
  have e1 := isR_t hr
  · refine zz_start wPX5_hasRing rfl rfl (Nat.le_of_ble_eq_true rfl) ?_
    refine zz_iload_n dX5_hasRing_0 rfl ?_
    refine zz_callS1 (m_isR _) dX5_hasRing_1 zw_m_X5_55 wYX5_isRelation wDX5_isRelation rfl (Nat.le_of_ble_eq_true rfl) (by decide) rfl ?_
    refine zz_if_eq (tgt := 19) dX5_hasRing_4 (by decide) (fun q => absurd q (by rw [e1]; decide)) (fun _ => ?_)
    refine zz_aload_n dX5_hasRing_7 rfl ?_
    refine zz_aload_n dX5_hasRing_8 rfl ?_
    refine zz_iload_n dX5_hasRing_9 rfl ?_
    refine zz_callV (ci := 5) (m_ringed hr hn) dX5_hasRing_10 zw_m_X5_112 wYX5_isRinged wDX5_isRinged rfl (by omega) pm_o rfl (Nat.le_of_ble_eq_true rfl) (by decide) (by omega) (by omega) rfl ?_ (fun E τ hE => by cases hE.1)
    rintro v9 τ9 ⟨hv9, MI2, rfl⟩
    cases hv9
    refine zz_callV1 (ci := 5) (m_says _) dX5_hasRing_13 zw_m_X5_90 wYX5_says wDX5_says rfl (by omega) pm_o rfl (Nat.le_of_ble_eq_true rfl) (by decide) rfl ?_
    refine zz_goto (tgt := 24) dX5_hasRing_16 (by decide) ?_
    refine zz_zret dX5_hasRing_24 rfl (by first | rfl | exact zB_nar _) ?_
    exact ⟨rfl, MB, MI2, rfl, rfl, rfl⟩
set_option maxHeartbeats 1000000 in
set_option maxRecDepth 20000 in
theorem m_hasRing_x {v : Int32} (h : isR v = false) : zz_C mX5_hasRing 4 0 0 [.ref 54, .int v] (pm MB MI (nI n) mt T) (fun o τ => o = .inl (some (.int (zB false))) ∧ τ = pm MB MI (nI n) 1 T) := by
  · refine zz_start wPX5_hasRing rfl rfl (Nat.le_of_ble_eq_true rfl) ?_
    refine zz_iload_n dX5_hasRing_0 rfl ?_
    refine zz_callS1 (m_isR _) dX5_hasRing_1 zw_m_X5_55 wYX5_isRelation wDX5_isRelation rfl (Nat.le_of_ble_eq_true rfl) (by decide) rfl ?_
    refine zz_if_eq (tgt := 19) dX5_hasRing_4 (by decide) (fun _ => ?_) (fun q => absurd (by rw [h]; rfl) q)
    refine zz_aload_n dX5_hasRing_19 rfl ?_
    refine zz_iconst (v := 1) dX5_hasRing_20 (by decide) ?_
    refine zz_callV1 (ci := 5) (m_denies 1) dX5_hasRing_21 zw_m_X5_87 wYX5_denies wDX5_denies rfl (by omega) pm_o rfl (Nat.le_of_ble_eq_true rfl) (by decide) rfl ?_
    refine zz_zret dX5_hasRing_24 rfl (by first | rfl | exact zB_nar _) ?_
    exact ⟨rfl, rfl⟩
set_option maxHeartbeats 1000000 in
set_option maxRecDepth 20000 in
theorem ml_lsN (hn : n ≤ 80) {e z : Nat} (he : e < n) : ∀ (m i : Nat), i + m = e → ff (fun a => MB 57 (80 * a + e) && MB 57 (80 * e + a)) m i = z → zz_E mX5_leastOf none 0 0 0 (fun o τ => o = .inl (some (.int (nI z))) ∧ τ = pm MB MI (nI n) mt T) 2 [(2, .int (nI i)), (0, .ref 54), (1, .int (nI e))] [] (pm MB MI (nI n) mt T) := by
  intro m
  induction m with
  | zero =>
    intro i hi hz
    have hi : e = i := by omega
    subst hi
    have hz2 : e = z := hz
    subst hz2
    refine zz_iload_n dX5_leastOf_2 rfl ?_
    refine zz_iload_n dX5_leastOf_3 rfl ?_
    refine zz_icmp_eq (tgt := 41) dX5_leastOf_4 (by decide) (fun _ => ?_) (fun q => absurd rfl q)
    refine zz_iload_n dX5_leastOf_41 rfl ?_
    refine zz_iret dX5_leastOf_42 rfl ?_
    exact ⟨rfl, rfl⟩
  | succ m ih =>
    intro i hi hz
    refine zz_iload_n dX5_leastOf_2 rfl ?_
    refine zz_iload_n dX5_leastOf_3 rfl ?_
    refine zz_icmp_eq (tgt := 41) dX5_leastOf_4 (by decide) (fun q => absurd ((nI_i (by omega) (by omega)).mp q) (by omega)) (fun _ => ?_)
    refine zz_aload_n dX5_leastOf_7 rfl ?_
    refine zz_get (ci := 5) (j := 4) zz_inX5 rfl zw_f_X5_20 rfl (by decide) dX5_leastOf_8 (by omega) pm_o rfl ?_
    refine zz_bipush (v := 80) dX5_leastOf_11 (by decide) ?_
    refine zz_iload_n dX5_leastOf_13 rfl ?_
    refine zz_imul dX5_leastOf_14 ?_
    refine zz_iload_n dX5_leastOf_15 rfl ?_
    refine zz_iadd dX5_leastOf_16 ?_
    refine zz_tope (y := nI (80 * i + e)) (by simp only [i80, i6400, pk_mul, nI_add, nI_1]) ?_
    refine zl_mb dX5_leastOf_17 (by omega) (by simp only [ml55, ml56, ml57, ml58, ml59, ml60, ml61]; omega) (by simp only [ml55, ml56, ml57, ml58, ml59, ml60, ml61]; omega) ?_
    refine zz_if_eq (tgt := 35) dX5_leastOf_18 (by decide) (fun h18 => ?_) (fun h18 => ?_)
    · refine zz_iinc (v := nI (i + 1)) dX5_leastOf_35 rfl (nI_1 i) (by decide) ?_
      refine zz_goto (tgt := 2) dX5_leastOf_38 (by decide) ?_
      have e8 : (fun a => MB 57 (80 * a + e) && MB 57 (80 * e + a)) i = false := by show (_ && _) = false; first | (rw [zB_0.mp h18]; rfl) | (rw [zB_0.mp h32, Bool.and_false])
      rw [ff_f e8] at hz
      exact ih (i + 1) (by omega) hz
    · refine zz_aload_n dX5_leastOf_21 rfl ?_
      refine zz_get (ci := 5) (j := 4) zz_inX5 rfl zw_f_X5_20 rfl (by decide) dX5_leastOf_22 (by omega) pm_o rfl ?_
      refine zz_bipush (v := 80) dX5_leastOf_25 (by decide) ?_
      refine zz_iload_n dX5_leastOf_27 rfl ?_
      refine zz_imul dX5_leastOf_28 ?_
      refine zz_iload_n dX5_leastOf_29 rfl ?_
      refine zz_iadd dX5_leastOf_30 ?_
      refine zz_tope (y := nI (80 * e + i)) (by simp only [i80, i6400, pk_mul, nI_add, nI_1]) ?_
      refine zl_mb dX5_leastOf_31 (by omega) (by simp only [ml55, ml56, ml57, ml58, ml59, ml60, ml61]; omega) (by simp only [ml55, ml56, ml57, ml58, ml59, ml60, ml61]; omega) ?_
      refine zz_if_ne (tgt := 41) dX5_leastOf_32 (by decide) (fun h32 => ?_) (fun h32 => ?_)
      · refine zz_iload_n dX5_leastOf_41 rfl ?_
        refine zz_iret dX5_leastOf_42 rfl ?_
        have e8 : (fun a => MB 57 (80 * a + e) && MB 57 (80 * e + a)) i = true := by show (_ && _) = true; rw [zB_n.mp h18, zB_n.mp h32]; rfl
        rw [ff_t e8] at hz
        subst hz
        exact ⟨rfl, rfl⟩
      · refine zz_iinc (v := nI (i + 1)) dX5_leastOf_35 rfl (nI_1 i) (by decide) ?_
        refine zz_goto (tgt := 2) dX5_leastOf_38 (by decide) ?_
        have e8 : (fun a => MB 57 (80 * a + e) && MB 57 (80 * e + a)) i = false := by show (_ && _) = false; first | (rw [zB_0.mp h18]; rfl) | (rw [zB_0.mp h32, Bool.and_false])
        rw [ff_f e8] at hz
        exact ih (i + 1) (by omega) hz
set_option maxHeartbeats 1000000 in
set_option maxRecDepth 20000 in
theorem m_leastOf (hn : n ≤ 80) {e : Nat} (he : e < n) : zz_Dt mX5_leastOf 0 0 0 [.ref 54, .int (nI e)] (pm MB MI (nI n) mt T) (.inl (some (.int (nI (lsN (fun i k => MB 57 (80 * i + k)) e))))) (pm MB MI (nI n) mt T) := by
  refine zz_start wPX5_leastOf rfl rfl (Nat.le_of_ble_eq_true rfl) ?_
  refine zz_iconst (v := 0) dX5_leastOf_0 (by decide) ?_
  refine zz_istore_n dX5_leastOf_1 (by decide) ?_
  exact ml_lsN hn he e 0 (by omega) rfl
set_option maxHeartbeats 1000000 in
set_option maxRecDepth 20000 in
theorem m_classOf_v {r e : Nat} (hr : r < 4) (he : e < n) (hn : n ≤ 80) : zz_C mX5_classOf 4 0 0 [.ref 54, .int (nI r), .int (nI e)] (pm MB MI (nI n) mt T) (zmQ n T (MB 55) (MB 56) 0 (some (.int (nI (lsN (rchB (rl MB r) n) e))))) := by
  have e1 : (isR (nI r) && isE n (nI e)) = true := and_t (isR_t hr) (isE_n hn he)
  · refine zz_start wPX5_classOf rfl rfl (Nat.le_of_ble_eq_true rfl) ?_
    refine zz_aload_n dX5_classOf_0 rfl ?_
    refine zz_iload_n dX5_classOf_1 rfl ?_
    refine zz_iload_n dX5_classOf_2 rfl ?_
    refine zz_callV1 (ci := 5) (m_isRow _ _) dX5_classOf_3 zw_m_X5_83 wYX5_isRow wDX5_isRow rfl (by omega) pm_o rfl (Nat.le_of_ble_eq_true rfl) (by decide) rfl ?_
    refine zz_if_ne (tgt := 15) dX5_classOf_6 (by decide) (fun _ => ?_) (fun q => absurd q (by rw [e1]; decide))
    refine zz_aload_n dX5_classOf_15 rfl ?_
    refine zz_iload_n dX5_classOf_16 rfl ?_
    refine zz_callV (ci := 5) (m_closes hr hn) dX5_classOf_17 zw_m_X5_108 wYX5_closes wDX5_closes rfl (by omega) pm_o rfl (Nat.le_of_ble_eq_true rfl) (by decide) (by omega) (by omega) rfl ?_ (fun E τ hE => by cases hE.1)
    rintro v9 τ9 ⟨hv9, MI3, rfl⟩
    cases hv9
    refine zz_aload_n dX5_classOf_20 rfl ?_
    refine zz_aload_n dX5_classOf_21 rfl ?_
    refine zz_iload_n dX5_classOf_22 rfl ?_
    refine zz_callV1 (ci := 5) (m_leastOf hn he) dX5_classOf_23 zw_m_X5_122 wYX5_leastOf wDX5_leastOf rfl (by omega) pm_o rfl (Nat.le_of_ble_eq_true rfl) (by decide) rfl ?_
    refine zz_callV1 (ci := 5) (m_told _) dX5_classOf_26 zw_m_X5_80 wYX5_told wDX5_told rfl (by omega) pm_o rfl (Nat.le_of_ble_eq_true rfl) (by decide) rfl ?_
    refine zz_iret dX5_classOf_29 rfl ?_
    refine ⟨?_, _, MI3, ?_, ?_, rfl⟩
    · have e8 : lsN (fun i k => va_up MB 57 (gs (MB 57) 0 n n 0 (rchB (rl MB r) n)) 57 (80 * i + k)) e = lsN (rchB (rl MB r) n) e := lsN_c (fun a b ha hb => by rw [up_at]; exact gs0_get hn ha hb) he
      rw [e8]
    · simp only [up_at, up_ne _ _ (show (55 : Nat) ≠ 57 by decide), up_ne _ _ (show (55 : Nat) ≠ 58 by decide), up_ne _ _ (show (58 : Nat) ≠ 57 by decide), up_ne _ _ (show (57 : Nat) ≠ 58 by decide), up_ne _ _ (show (56 : Nat) ≠ 55 by decide), up_ne _ _ (show (56 : Nat) ≠ 57 by decide), up_ne _ _ (show (56 : Nat) ≠ 58 by decide)]
    · simp only [up_at, up_ne _ _ (show (55 : Nat) ≠ 57 by decide), up_ne _ _ (show (55 : Nat) ≠ 58 by decide), up_ne _ _ (show (58 : Nat) ≠ 57 by decide), up_ne _ _ (show (57 : Nat) ≠ 58 by decide), up_ne _ _ (show (56 : Nat) ≠ 55 by decide), up_ne _ _ (show (56 : Nat) ≠ 57 by decide), up_ne _ _ (show (56 : Nat) ≠ 58 by decide)]
set_option maxHeartbeats 1000000 in
set_option maxRecDepth 20000 in
theorem m_classOf_x {v w : Int32} (h : (isR v && isE n w) = false) : zz_C mX5_classOf 4 0 0 [.ref 54, .int v, .int w] (pm MB MI (nI n) mt T) (fun o τ => o = .inl (some (.int 0)) ∧ τ = pm MB MI (nI n) 1 T) := by
  · refine zz_start wPX5_classOf rfl rfl (Nat.le_of_ble_eq_true rfl) ?_
    refine zz_aload_n dX5_classOf_0 rfl ?_
    refine zz_iload_n dX5_classOf_1 rfl ?_
    refine zz_iload_n dX5_classOf_2 rfl ?_
    refine zz_callV1 (ci := 5) (m_isRow _ _) dX5_classOf_3 zw_m_X5_83 wYX5_isRow wDX5_isRow rfl (by omega) pm_o rfl (Nat.le_of_ble_eq_true rfl) (by decide) rfl ?_
    refine zz_if_ne (tgt := 15) dX5_classOf_6 (by decide) (fun q => absurd (by rw [h]; rfl) q) (fun _ => ?_)
    refine zz_aload_n dX5_classOf_9 rfl ?_
    refine zz_iconst (v := 1) dX5_classOf_10 (by decide) ?_
    refine zz_callV1 (ci := 5) (m_refuse 1) dX5_classOf_11 zw_m_X5_77 wYX5_refuse wDX5_refuse rfl (by omega) pm_o rfl (Nat.le_of_ble_eq_true rfl) (by decide) rfl ?_
    refine zz_iret dX5_classOf_14 rfl ?_
    exact ⟨rfl, rfl⟩
set_option maxHeartbeats 1000000 in
set_option maxRecDepth 20000 in
theorem ml_cls2 {Q : zz_Q} {r : Nat} (hn : n ≤ 80) (hQ : Q (.inl (some (.int (nI (cnt (fun k => decide (lsN (fun i k => MB 57 (80 * i + k)) k = k)) n))))) (pm MB MI (nI n) 0 T)) : ∀ (m i : Nat), i + m = n → zz_E mX5_classes none 4 0 0 (Q) 22 [(3, .int (nI i)), (2, .int (nI (cnt (fun k => decide (lsN (fun i k => MB 57 (80 * i + k)) k = k)) i))), (0, .ref 54), (1, .int (nI r))] [] (pm MB MI (nI n) mt T) := by
  intro m
  induction m with
  | zero =>
    intro i hi
    have hi : n = i := by omega
    subst hi
    refine zz_iload_n dX5_classes_22 rfl ?_
    refine zz_aload_n dX5_classes_23 rfl ?_
    refine zz_get (ci := 5) (j := 2) zz_inX5 rfl zw_f_X5_16 rfl (by decide) dX5_classes_24 (by omega) pm_o rfl ?_
    refine zz_icmp_ge (tgt := 53) dX5_classes_27 (by decide) (fun _ => ?_) (fun h => absurd (nI_le (by omega) (by omega)) h)
    refine zz_aload_n dX5_classes_53 rfl ?_
    refine zz_iload_n dX5_classes_54 rfl ?_
    refine zz_callV1 (ci := 5) (m_told _) dX5_classes_55 zw_m_X5_80 wYX5_told wDX5_told rfl (by omega) pm_o rfl (Nat.le_of_ble_eq_true rfl) (by decide) rfl ?_
    refine zz_iret dX5_classes_58 rfl ?_
    exact hQ
  | succ m ih =>
    intro i hi
    refine zz_iload_n dX5_classes_22 rfl ?_
    refine zz_aload_n dX5_classes_23 rfl ?_
    refine zz_get (ci := 5) (j := 2) zz_inX5 rfl zw_f_X5_16 rfl (by decide) dX5_classes_24 (by omega) pm_o rfl ?_
    refine zz_icmp_ge (tgt := 53) dX5_classes_27 (by decide) (fun h => absurd h (nI_ge (by omega) (by omega))) (fun _ => ?_)
    refine zz_iload_n dX5_classes_30 rfl ?_
    refine zz_aload_n dX5_classes_31 rfl ?_
    refine zz_iload_n dX5_classes_32 rfl ?_
    refine zz_callV1 (ci := 5) (m_leastOf hn (show i < n by omega)) dX5_classes_33 zw_m_X5_122 wYX5_leastOf wDX5_leastOf rfl (by omega) pm_o rfl (Nat.le_of_ble_eq_true rfl) (by decide) rfl ?_
    refine zz_iload_n dX5_classes_36 rfl ?_
    refine zz_icmp_ne (tgt := 44) dX5_classes_37 (by decide) (fun h37 => ?_) (fun h37 => ?_)
    · refine zz_iconst (v := 0) dX5_classes_44 (by decide) ?_
      refine zz_iadd dX5_classes_45 ?_
      refine zz_istore_n dX5_classes_46 (by decide) ?_
      refine zz_iinc (v := nI (i + 1)) dX5_classes_47 rfl (nI_1 i) (by decide) ?_
      refine zz_goto (tgt := 22) dX5_classes_50 (by decide) ?_
      have h9 := ih (i + 1) (by omega)
      rw [cnt_s] at h9
      have hle := lsN_le (fun i k => MB 57 (80 * i + k)) i
      have hii := @nI_i (lsN (fun i k => MB 57 (80 * i + k)) i) i (by omega) (by omega)
      first | (rw [decide_eq_true (hii.mp h37)] at h9; exact h9) | (rw [decide_eq_false (fun q => h37 (hii.mpr q))] at h9; exact h9)
    · refine zz_iconst (v := 1) dX5_classes_40 (by decide) ?_
      refine zz_goto (tgt := 45) dX5_classes_41 (by decide) ?_
      refine zz_iadd dX5_classes_45 ?_
      refine zz_istore_n dX5_classes_46 (by decide) ?_
      refine zz_iinc (v := nI (i + 1)) dX5_classes_47 rfl (nI_1 i) (by decide) ?_
      refine zz_goto (tgt := 22) dX5_classes_50 (by decide) ?_
      have h9 := ih (i + 1) (by omega)
      rw [cnt_s] at h9
      have hle := lsN_le (fun i k => MB 57 (80 * i + k)) i
      have hii := @nI_i (lsN (fun i k => MB 57 (80 * i + k)) i) i (by omega) (by omega)
      first | (rw [decide_eq_true (hii.mp h37)] at h9; exact h9) | (rw [decide_eq_false (fun q => h37 (hii.mpr q))] at h9; exact h9)
set_option maxHeartbeats 1000000 in
set_option maxRecDepth 20000 in
theorem m_classes_v {r : Nat} (hr : r < 4) (hn : n ≤ 80) : zz_C mX5_classes 4 0 0 [.ref 54, .int (nI r)] (pm MB MI (nI n) mt T) (zmQ n T (MB 55) (MB 56) 0 (some (.int (nI (cnt (fun k => decide (lsN (rchB (rl MB r) n) k = k)) n))))) := by
  have e1 := isR_t hr
  · refine zz_start wPX5_classes rfl rfl (Nat.le_of_ble_eq_true rfl) ?_
    refine zz_iload_n dX5_classes_0 rfl ?_
    refine zz_callS1 (m_isR _) dX5_classes_1 zw_m_X5_55 wYX5_isRelation wDX5_isRelation rfl (Nat.le_of_ble_eq_true rfl) (by decide) rfl ?_
    refine zz_if_ne (tgt := 13) dX5_classes_4 (by decide) (fun _ => ?_) (fun q => absurd q (by rw [e1]; decide))
    refine zz_aload_n dX5_classes_13 rfl ?_
    refine zz_iload_n dX5_classes_14 rfl ?_
    refine zz_callV (ci := 5) (m_closes hr hn) dX5_classes_15 zw_m_X5_108 wYX5_closes wDX5_closes rfl (by omega) pm_o rfl (Nat.le_of_ble_eq_true rfl) (by decide) (by omega) (by omega) rfl ?_ (fun E τ hE => by cases hE.1)
    rintro v9 τ9 ⟨hv9, MI3, rfl⟩
    cases hv9
    refine zz_iconst (v := 0) dX5_classes_18 (by decide) ?_
    refine zz_istore_n dX5_classes_19 (by decide) ?_
    refine zz_iconst (v := 0) dX5_classes_20 (by decide) ?_
    refine zz_istore_n dX5_classes_21 (by decide) ?_
    refine ml_cls2 (MB := va_up MB 57 (gs (MB 57) 0 n n 0 (rchB (rl MB r) n))) (MI := MI3) (r := r) hn ?_ n 0 (by omega)
    refine ⟨?_, _, MI3, ?_, ?_, rfl⟩
    · have e8 : cnt (fun k => decide (lsN (fun i k => va_up MB 57 (gs (MB 57) 0 n n 0 (rchB (rl MB r) n)) 57 (80 * i + k)) k = k)) n = cnt (fun k => decide (lsN (rchB (rl MB r) n) k = k)) n := cnt_c (fun k hk => by
        show decide (_ = k) = decide (_ = k)
        rw [lsN_c (S' := (rchB (rl MB r) n)) (fun a b ha hb => by rw [up_at]; exact gs0_get hn ha hb) hk])
      rw [e8]
    · simp only [up_at, up_ne _ _ (show (55 : Nat) ≠ 57 by decide), up_ne _ _ (show (55 : Nat) ≠ 58 by decide), up_ne _ _ (show (58 : Nat) ≠ 57 by decide), up_ne _ _ (show (57 : Nat) ≠ 58 by decide), up_ne _ _ (show (56 : Nat) ≠ 55 by decide), up_ne _ _ (show (56 : Nat) ≠ 57 by decide), up_ne _ _ (show (56 : Nat) ≠ 58 by decide)]
    · simp only [up_at, up_ne _ _ (show (55 : Nat) ≠ 57 by decide), up_ne _ _ (show (55 : Nat) ≠ 58 by decide), up_ne _ _ (show (58 : Nat) ≠ 57 by decide), up_ne _ _ (show (57 : Nat) ≠ 58 by decide), up_ne _ _ (show (56 : Nat) ≠ 55 by decide), up_ne _ _ (show (56 : Nat) ≠ 57 by decide), up_ne _ _ (show (56 : Nat) ≠ 58 by decide)]
set_option maxHeartbeats 1000000 in
set_option maxRecDepth 20000 in
theorem m_classes_x {v : Int32} (h : isR v = false) : zz_C mX5_classes 4 0 0 [.ref 54, .int v] (pm MB MI (nI n) mt T) (fun o τ => o = .inl (some (.int 0)) ∧ τ = pm MB MI (nI n) 1 T) := by
  · refine zz_start wPX5_classes rfl rfl (Nat.le_of_ble_eq_true rfl) ?_
    refine zz_iload_n dX5_classes_0 rfl ?_
    refine zz_callS1 (m_isR _) dX5_classes_1 zw_m_X5_55 wYX5_isRelation wDX5_isRelation rfl (Nat.le_of_ble_eq_true rfl) (by decide) rfl ?_
    refine zz_if_ne (tgt := 13) dX5_classes_4 (by decide) (fun q => absurd (by rw [h]; rfl) q) (fun _ => ?_)
    refine zz_aload_n dX5_classes_7 rfl ?_
    refine zz_iconst (v := 1) dX5_classes_8 (by decide) ?_
    refine zz_callV1 (ci := 5) (m_refuse 1) dX5_classes_9 zw_m_X5_77 wYX5_refuse wDX5_refuse rfl (by omega) pm_o rfl (Nat.le_of_ble_eq_true rfl) (by decide) rfl ?_
    refine zz_iret dX5_classes_12 rfl ?_
    exact ⟨rfl, rfl⟩
end ZZM11
