section ZZM13
variable {MB : Nat → Nat → Bool} {MI : Nat → Nat → Int32} {n : Nat} {mt : Int32} {T : zz_St}
theorem cl_eq {R : Nat → Nat → Bool} {n a b : Nat} (ha : a < n) (hb : b < n) : (R a b || anb (fun m => R a m && rchB R n m b) n) = rchB R n a b := by
  rw [Bool.eq_iff_iff, Bool.or_eq_true, anb_t, rchB_t hb]
  constructor
  · rintro (h | ⟨m, h1, h2⟩)
    · exact rch_1 ha h
    · exact rch_t (rch_1 ha (bo_t h2).1) ((rchB_t hb).mp (bo_t h2).2)
  · rintro ⟨m, h⟩
    rcases wkb_l h with ⟨_, h1⟩ | ⟨j, h1, h2, h3⟩
    · exact Or.inl h1
    · cases m with
      | zero =>
        rw [of_decide_eq_true h3]
        exact Or.inl h2
      | succ m => exact Or.inr ⟨j, h1, by rw [h2, (rchB_t hb).mpr ⟨m, h3⟩]; rfl⟩
theorem cm_as {n : Nat} {A B C T U : Nat → Nat → Bool} (hT : ∀ i k, i < n → k < n → T i k = anb (fun j => A i j && B j k) n) (hU : ∀ i k, i < n → k < n → U i k = anb (fun j => B i j && C j k) n) {a b : Nat} (ha : a < n) (hb : b < n) : anb (fun j => T a j && C j b) n = anb (fun j => A a j && U j b) n := by
  rw [Bool.eq_iff_iff, anb_t, anb_t]
  constructor
  · rintro ⟨j, hj, h⟩
    obtain ⟨h1, h2⟩ := bo_t h
    rw [hT a j ha hj] at h1
    obtain ⟨i, hi, h3⟩ := anb_t.mp h1
    obtain ⟨h4, h5⟩ := bo_t h3
    exact ⟨i, hi, by rw [h4, hU i b hi hb, anb_t.mpr ⟨j, hj, by rw [h5, h2]; rfl⟩]; rfl⟩
  · rintro ⟨i, hi, h⟩
    obtain ⟨h1, h2⟩ := bo_t h
    rw [hU i b hi hb] at h2
    obtain ⟨j, hj, h3⟩ := anb_t.mp h2
    obtain ⟨h4, h5⟩ := bo_t h3
    exact ⟨j, hj, by rw [h5, hT a j ha hj, anb_t.mpr ⟨i, hi, by rw [h1, h4]; rfl⟩]; rfl⟩
set_option maxHeartbeats 1000000 in
set_option maxRecDepth 20000 in
theorem ml_icJ {Q : zz_Q} {r : Nat} (hr : r < 4) (hn : n ≤ 80) {a b : Nat} (ha : a < n) (hb : b < n) (K : zz_E mX5_isClosed none 4 0 0 Q 103 [(5, .int (zB (MB 55 (6400 * r + 80 * a + b) || anb (fun m => MB 55 (6400 * r + 80 * a + m) && MB 57 (80 * m + b)) n))), (4, .int (zB (MB 57 (80 * a + b)))), (3, .int (nI b)), (2, .int (nI a)), (0, .ref 54), (1, .int (nI r))] [] (pm MB MI (nI n) mt T)) : ∀ (m i : Nat), i + m = n → zz_E mX5_isClosed none 4 0 0 (Q) 50 [(6, .int (nI i)), (5, .int (zB (MB 55 (6400 * r + 80 * a + b) || anb (fun m => MB 55 (6400 * r + 80 * a + m) && MB 57 (80 * m + b)) i))), (4, .int (zB (MB 57 (80 * a + b)))), (3, .int (nI b)), (2, .int (nI a)), (0, .ref 54), (1, .int (nI r))] [] (pm MB MI (nI n) mt T) := by
  intro m
  induction m with
  | zero =>
    intro i hi
    have hi : n = i := by omega
    subst hi
    refine zz_iload dX5_isClosed_50 rfl ?_
    refine zz_aload_n dX5_isClosed_52 rfl ?_
    refine zz_get (ci := 5) (j := 2) zz_inX5 rfl zw_f_X5_16 rfl (by decide) dX5_isClosed_53 (by omega) pm_o rfl ?_
    refine zz_icmp_ge (tgt := 103) dX5_isClosed_56 (by decide) (fun _ => ?_) (fun h => absurd (nI_le (by omega) (by omega)) h)
    refine zz_lvs (lv2 := [(5, .int (zB (MB 55 (6400 * r + 80 * a + b) || anb (fun m => MB 55 (6400 * r + 80 * a + m) && MB 57 (80 * m + b)) n))), (4, .int (zB (MB 57 (80 * a + b)))), (3, .int (nI b)), (2, .int (nI a)), (0, .ref 54), (1, .int (nI r))]) (fun q hq => by simp only [List.mem_cons, List.not_mem_nil, or_false] at hq; rcases hq with rfl | rfl | rfl | rfl | rfl | rfl <;> simp [zz_up1, zz_up2, Value.category]) ?_
    exact K
  | succ m ih =>
    intro i hi
    refine zz_iload dX5_isClosed_50 rfl ?_
    refine zz_aload_n dX5_isClosed_52 rfl ?_
    refine zz_get (ci := 5) (j := 2) zz_inX5 rfl zw_f_X5_16 rfl (by decide) dX5_isClosed_53 (by omega) pm_o rfl ?_
    refine zz_icmp_ge (tgt := 103) dX5_isClosed_56 (by decide) (fun h => absurd h (nI_ge (by omega) (by omega))) (fun _ => ?_)
    refine zz_iload dX5_isClosed_59 rfl ?_
    refine zz_if_ne (tgt := 103) dX5_isClosed_61 (by decide) (fun h61 => ?_) (fun h61 => ?_)
    · have e8 : MB 55 (6400 * r + 80 * a + b) = true ∨ anb (fun m => MB 55 (6400 * r + 80 * a + m) && MB 57 (80 * m + b)) i = true := (Bool.or_eq_true _ _).mp (zB_n.mp h61)
      have e9 : (MB 55 (6400 * r + 80 * a + b) || anb (fun m => MB 55 (6400 * r + 80 * a + m) && MB 57 (80 * m + b)) n) = (MB 55 (6400 * r + 80 * a + b) || anb (fun m => MB 55 (6400 * r + 80 * a + m) && MB 57 (80 * m + b)) i) := e8.elim (fun q => by rw [q, Bool.true_or, Bool.true_or]) (fun q => by rw [anb_m (show i ≤ n by omega) q, q])
      rw [e9] at K
      refine zz_lvs (lv2 := [(5, .int (zB (MB 55 (6400 * r + 80 * a + b) || anb (fun m => MB 55 (6400 * r + 80 * a + m) && MB 57 (80 * m + b)) i))), (4, .int (zB (MB 57 (80 * a + b)))), (3, .int (nI b)), (2, .int (nI a)), (0, .ref 54), (1, .int (nI r))]) (fun q hq => by simp only [List.mem_cons, List.not_mem_nil, or_false] at hq; rcases hq with rfl | rfl | rfl | rfl | rfl | rfl <;> simp [zz_up1, zz_up2, Value.category]) ?_
      exact K
    · refine zz_aload_n dX5_isClosed_64 rfl ?_
      refine zz_iload_n dX5_isClosed_65 rfl ?_
      refine zz_iload_n dX5_isClosed_66 rfl ?_
      refine zz_iload dX5_isClosed_67 rfl ?_
      refine zz_callV1 (ci := 5) (m_leads hr (show a < 80 by omega) (show i < 80 by omega)) dX5_isClosed_69 zw_m_X5_66 wYX5_leads wDX5_leads rfl (by omega) pm_o rfl (Nat.le_of_ble_eq_true rfl) (by decide) rfl ?_
      refine zz_if_eq (tgt := 94) dX5_isClosed_72 (by decide) (fun h72 => ?_) (fun h72 => ?_)
      · refine zz_iconst (v := 0) dX5_isClosed_94 (by decide) ?_
        have e7 := zB_0.mp h61
        have e9 : (MB 55 (6400 * r + 80 * a + b) || anb (fun m => MB 55 (6400 * r + 80 * a + m) && MB 57 (80 * m + b)) (i + 1)) = (MB 55 (6400 * r + 80 * a + i) && MB 57 (80 * i + b)) := by show (_ || (_ || _)) = _; rw [← Bool.or_assoc, e7, Bool.false_or]
        refine zz_tope (y := zB (MB 55 (6400 * r + 80 * a + b) || anb (fun m => MB 55 (6400 * r + 80 * a + m) && MB 57 (80 * m + b)) (i + 1))) (by rw [e9]; first | (rw [zB_0.mp h72]; rfl) | (rw [zB_n.mp h72, zB_0.mp h87]; rfl) | (rw [zB_n.mp h72, zB_n.mp h87]; rfl)) ?_
        refine zz_istore dX5_isClosed_95 (by decide) ?_
        refine zz_iinc (v := nI (i + 1)) dX5_isClosed_97 rfl (nI_1 i) (by decide) ?_
        refine zz_goto (tgt := 50) dX5_isClosed_100 (by decide) ?_
        have h9 := ih (i + 1) (by omega)
        refine zz_lvs (fun q hq => ?_) h9
        simp only [List.mem_cons, List.not_mem_nil, or_false] at hq
        rcases hq with rfl | rfl | rfl | rfl | rfl | rfl | rfl <;> simp [zz_up1, zz_up2, Value.category, f4_1, f4_2, f4_3]
      · refine zz_aload_n dX5_isClosed_75 rfl ?_
        refine zz_get (ci := 5) (j := 4) zz_inX5 rfl zw_f_X5_20 rfl (by decide) dX5_isClosed_76 (by omega) pm_o rfl ?_
        refine zz_bipush (v := 80) dX5_isClosed_79 (by decide) ?_
        refine zz_iload dX5_isClosed_81 rfl ?_
        refine zz_imul dX5_isClosed_83 ?_
        refine zz_iload_n dX5_isClosed_84 rfl ?_
        refine zz_iadd dX5_isClosed_85 ?_
        refine zz_tope (y := nI (80 * i + b)) (by simp only [i80, i6400, pk_mul, nI_add, nI_1]) ?_
        refine zl_mb dX5_isClosed_86 (by omega) (by simp only [ml55, ml56, ml57, ml58, ml59, ml60, ml61]; omega) (by simp only [ml55, ml56, ml57, ml58, ml59, ml60, ml61]; omega) ?_
        refine zz_if_eq (tgt := 94) dX5_isClosed_87 (by decide) (fun h87 => ?_) (fun h87 => ?_)
        · refine zz_iconst (v := 0) dX5_isClosed_94 (by decide) ?_
          have e7 := zB_0.mp h61
          have e9 : (MB 55 (6400 * r + 80 * a + b) || anb (fun m => MB 55 (6400 * r + 80 * a + m) && MB 57 (80 * m + b)) (i + 1)) = (MB 55 (6400 * r + 80 * a + i) && MB 57 (80 * i + b)) := by show (_ || (_ || _)) = _; rw [← Bool.or_assoc, e7, Bool.false_or]
          refine zz_tope (y := zB (MB 55 (6400 * r + 80 * a + b) || anb (fun m => MB 55 (6400 * r + 80 * a + m) && MB 57 (80 * m + b)) (i + 1))) (by rw [e9]; first | (rw [zB_0.mp h72]; rfl) | (rw [zB_n.mp h72, zB_0.mp h87]; rfl) | (rw [zB_n.mp h72, zB_n.mp h87]; rfl)) ?_
          refine zz_istore dX5_isClosed_95 (by decide) ?_
          refine zz_iinc (v := nI (i + 1)) dX5_isClosed_97 rfl (nI_1 i) (by decide) ?_
          refine zz_goto (tgt := 50) dX5_isClosed_100 (by decide) ?_
          have h9 := ih (i + 1) (by omega)
          refine zz_lvs (fun q hq => ?_) h9
          simp only [List.mem_cons, List.not_mem_nil, or_false] at hq
          rcases hq with rfl | rfl | rfl | rfl | rfl | rfl | rfl <;> simp [zz_up1, zz_up2, Value.category, f4_1, f4_2, f4_3]
        · refine zz_iconst (v := 1) dX5_isClosed_90 (by decide) ?_
          refine zz_goto (tgt := 95) dX5_isClosed_91 (by decide) ?_
          have e7 := zB_0.mp h61
          have e9 : (MB 55 (6400 * r + 80 * a + b) || anb (fun m => MB 55 (6400 * r + 80 * a + m) && MB 57 (80 * m + b)) (i + 1)) = (MB 55 (6400 * r + 80 * a + i) && MB 57 (80 * i + b)) := by show (_ || (_ || _)) = _; rw [← Bool.or_assoc, e7, Bool.false_or]
          refine zz_tope (y := zB (MB 55 (6400 * r + 80 * a + b) || anb (fun m => MB 55 (6400 * r + 80 * a + m) && MB 57 (80 * m + b)) (i + 1))) (by rw [e9]; first | (rw [zB_0.mp h72]; rfl) | (rw [zB_n.mp h72, zB_0.mp h87]; rfl) | (rw [zB_n.mp h72, zB_n.mp h87]; rfl)) ?_
          refine zz_istore dX5_isClosed_95 (by decide) ?_
          refine zz_iinc (v := nI (i + 1)) dX5_isClosed_97 rfl (nI_1 i) (by decide) ?_
          refine zz_goto (tgt := 50) dX5_isClosed_100 (by decide) ?_
          have h9 := ih (i + 1) (by omega)
          refine zz_lvs (fun q hq => ?_) h9
          simp only [List.mem_cons, List.not_mem_nil, or_false] at hq
          rcases hq with rfl | rfl | rfl | rfl | rfl | rfl | rfl <;> simp [zz_up1, zz_up2, Value.category, f4_1, f4_2, f4_3]
set_option maxHeartbeats 1000000 in
set_option maxRecDepth 20000 in
theorem ml_icI {Q : zz_Q} {r : Nat} (hr : r < 4) (hn : n ≤ 80) (hS : ∀ a b, a < n → b < n → MB 57 (80 * a + b) = rchB (rl MB r) n a b) {a : Nat} (ha : a < n) (K : zz_E mX5_isClosed none 4 0 0 Q 118 [(3, .int (nI n)), (2, .int (nI a)), (0, .ref 54), (1, .int (nI r))] [] (pm MB MI (nI n) mt T)) : ∀ (m i : Nat), i + m = n → zz_E mX5_isClosed none 4 0 0 (Q) 17 [(3, .int (nI i)), (2, .int (nI a)), (0, .ref 54), (1, .int (nI r))] [] (pm MB MI (nI n) mt T) := by
  intro m
  induction m with
  | zero =>
    intro i hi
    have hi : n = i := by omega
    subst hi
    refine zz_iload_n dX5_isClosed_17 rfl ?_
    refine zz_aload_n dX5_isClosed_18 rfl ?_
    refine zz_get (ci := 5) (j := 2) zz_inX5 rfl zw_f_X5_16 rfl (by decide) dX5_isClosed_19 (by omega) pm_o rfl ?_
    refine zz_icmp_ge (tgt := 118) dX5_isClosed_22 (by decide) (fun _ => ?_) (fun h => absurd (nI_le (by omega) (by omega)) h)
    exact K
  | succ m ih =>
    intro i hi
    have hin : i < n := by omega
    have e5 : (MB 55 (6400 * r + 80 * a + i) || anb (fun m => MB 55 (6400 * r + 80 * a + m) && MB 57 (80 * m + i)) n) = MB 57 (80 * a + i) := by
      rw [hS a i ha hin, ← cl_eq ha hin, anb_c (fun m hm => by rw [hS m i hm hin])]
    refine zz_iload_n dX5_isClosed_17 rfl ?_
    refine zz_aload_n dX5_isClosed_18 rfl ?_
    refine zz_get (ci := 5) (j := 2) zz_inX5 rfl zw_f_X5_16 rfl (by decide) dX5_isClosed_19 (by omega) pm_o rfl ?_
    refine zz_icmp_ge (tgt := 118) dX5_isClosed_22 (by decide) (fun h => absurd h (nI_ge (by omega) (by omega))) (fun _ => ?_)
    refine zz_aload_n dX5_isClosed_25 rfl ?_
    refine zz_get (ci := 5) (j := 4) zz_inX5 rfl zw_f_X5_20 rfl (by decide) dX5_isClosed_26 (by omega) pm_o rfl ?_
    refine zz_bipush (v := 80) dX5_isClosed_29 (by decide) ?_
    refine zz_iload_n dX5_isClosed_31 rfl ?_
    refine zz_imul dX5_isClosed_32 ?_
    refine zz_iload_n dX5_isClosed_33 rfl ?_
    refine zz_iadd dX5_isClosed_34 ?_
    refine zz_tope (y := nI (80 * a + i)) (by simp only [i80, i6400, pk_mul, nI_add, nI_1]) ?_
    refine zl_mb dX5_isClosed_35 (by omega) (by simp only [ml55, ml56, ml57, ml58, ml59, ml60, ml61]; omega) (by simp only [ml55, ml56, ml57, ml58, ml59, ml60, ml61]; omega) ?_
    refine zz_istore dX5_isClosed_36 (by decide) ?_
    refine zz_aload_n dX5_isClosed_38 rfl ?_
    refine zz_iload_n dX5_isClosed_39 rfl ?_
    refine zz_iload_n dX5_isClosed_40 rfl ?_
    refine zz_iload_n dX5_isClosed_41 rfl ?_
    refine zz_callV1 (ci := 5) (m_leads hr (show a < 80 by omega) (show i < 80 by omega)) dX5_isClosed_42 zw_m_X5_66 wYX5_leads wDX5_leads rfl (by omega) pm_o rfl (Nat.le_of_ble_eq_true rfl) (by decide) rfl ?_
    refine zz_istore dX5_isClosed_45 (by decide) ?_
    refine zz_iconst (v := 0) dX5_isClosed_47 (by decide) ?_
    refine zz_istore dX5_isClosed_48 (by decide) ?_
    have e0 : MB 55 (6400 * r + 80 * a + i) = (MB 55 (6400 * r + 80 * a + i) || anb (fun m => MB 55 (6400 * r + 80 * a + m) && MB 57 (80 * m + i)) 0) := (Bool.or_false _).symm
    refine zz_lvs (lv2 := [(6, .int (nI 0)), (5, .int (zB (MB 55 (6400 * r + 80 * a + i)))), (4, .int (zB (MB 57 (80 * a + i)))), (3, .int (nI i)), (2, .int (nI a)), (0, .ref 54), (1, .int (nI r))]) (fun q hq => by simp only [List.mem_cons, List.not_mem_nil, or_false] at hq; rcases hq with rfl | rfl | rfl | rfl | rfl | rfl | rfl <;> simp [zz_up1, zz_up2, Value.category, nI_0]) ?_
    rw [e0]
    refine ml_icJ hr hn ha hin ?_ n 0 (by omega)
    rw [e5]
    refine zz_iload dX5_isClosed_103 rfl ?_
    refine zz_iload dX5_isClosed_105 rfl ?_
    refine zz_icmp_eq (tgt := 112) dX5_isClosed_107 (by decide) (fun _ => ?_) (fun q => absurd rfl q)
    refine zz_iinc (v := nI (i + 1)) dX5_isClosed_112 rfl (nI_1 i) (by decide) ?_
    refine zz_goto (tgt := 17) dX5_isClosed_115 (by decide) ?_
    have h9 := ih (i + 1) (by omega)
    refine zz_lvs (fun q hq => ?_) h9
    simp only [List.mem_cons, List.not_mem_nil, or_false] at hq
    rcases hq with rfl | rfl | rfl | rfl <;> simp [zz_up1, zz_up2, Value.category, f4_1, f4_2, f4_3]
set_option maxHeartbeats 1000000 in
set_option maxRecDepth 20000 in
theorem ml_icO {Q : zz_Q} {r : Nat} (hr : r < 4) (hn : n ≤ 80) (hS : ∀ a b, a < n → b < n → MB 57 (80 * a + b) = rchB (rl MB r) n a b) (hQ : Q (.inl (some (.int (zB true)))) (pm MB MI (nI n) mt T)) : ∀ (m i : Nat), i + m = n → zz_E mX5_isClosed none 4 0 0 (Q) 7 [(2, .int (nI i)), (0, .ref 54), (1, .int (nI r))] [] (pm MB MI (nI n) mt T) := by
  intro m
  induction m with
  | zero =>
    intro i hi
    have hi : n = i := by omega
    subst hi
    refine zz_iload_n dX5_isClosed_7 rfl ?_
    refine zz_aload_n dX5_isClosed_8 rfl ?_
    refine zz_get (ci := 5) (j := 2) zz_inX5 rfl zw_f_X5_16 rfl (by decide) dX5_isClosed_9 (by omega) pm_o rfl ?_
    refine zz_icmp_ge (tgt := 124) dX5_isClosed_12 (by decide) (fun _ => ?_) (fun h => absurd (nI_le (by omega) (by omega)) h)
    refine zz_iconst (v := 1) dX5_isClosed_124 (by decide) ?_
    refine zz_zret dX5_isClosed_125 rfl (by first | rfl | exact zB_nar _) ?_
    exact hQ
  | succ m ih =>
    intro i hi
    refine zz_iload_n dX5_isClosed_7 rfl ?_
    refine zz_aload_n dX5_isClosed_8 rfl ?_
    refine zz_get (ci := 5) (j := 2) zz_inX5 rfl zw_f_X5_16 rfl (by decide) dX5_isClosed_9 (by omega) pm_o rfl ?_
    refine zz_icmp_ge (tgt := 124) dX5_isClosed_12 (by decide) (fun h => absurd h (nI_ge (by omega) (by omega))) (fun _ => ?_)
    refine zz_iconst (v := 0) dX5_isClosed_15 (by decide) ?_
    refine zz_istore_n dX5_isClosed_16 (by decide) ?_
    refine ml_icI hr hn hS (a := i) (by omega) ?_ n 0 (by omega)
    refine zz_iinc (v := nI (i + 1)) dX5_isClosed_118 rfl (nI_1 i) (by decide) ?_
    refine zz_goto (tgt := 7) dX5_isClosed_121 (by decide) ?_
    have h9 := ih (i + 1) (by omega)
    refine zz_lvs (fun q hq => ?_) h9
    simp only [List.mem_cons, List.not_mem_nil, or_false] at hq
    rcases hq with rfl | rfl | rfl <;> simp [zz_up1, zz_up2, Value.category, f4_1, f4_2, f4_3]
set_option maxHeartbeats 1000000 in
set_option maxRecDepth 20000 in
theorem m_isClosed {r : Nat} (hr : r < 4) (hn : n ≤ 80) : zz_C mX5_isClosed 4 0 0 [.ref 54, .int (nI r)] (pm MB MI (nI n) mt T) (zmQ n T (MB 55) (MB 56) mt (some (.int (zB true)))) := by
  refine zz_start wPX5_isClosed rfl rfl (Nat.le_of_ble_eq_true rfl) ?_
  refine zz_aload_n dX5_isClosed_0 rfl ?_
  refine zz_iload_n dX5_isClosed_1 rfl ?_
  refine zz_callV (ci := 5) (m_closes hr hn) dX5_isClosed_2 zw_m_X5_108 wYX5_closes wDX5_closes rfl (by omega) pm_o rfl (Nat.le_of_ble_eq_true rfl) (by decide) (by omega) (by omega) rfl ?_ (fun E τ hE => by cases hE.1)
  rintro v9 τ9 ⟨hv9, MI3, rfl⟩
  cases hv9
  refine zz_iconst (v := 0) dX5_isClosed_5 (by decide) ?_
  refine zz_istore_n dX5_isClosed_6 (by decide) ?_
  refine ml_icO (MB := va_up MB 57 (gs (MB 57) 0 n n 0 (rchB (rl MB r) n))) hr hn (fun a b ha hb => ?_) ⟨rfl, _, MI3, ?_, ?_, rfl⟩ n 0 (by omega)
  · rw [up_at]
    exact gs0_get hn ha hb
  · exact up_ne _ _ (by decide)
  · exact up_ne _ _ (by decide)
set_option maxHeartbeats 1000000 in
set_option maxRecDepth 20000 in
theorem m_isOrdered {r : Nat} (hr : r < 4) (hn : n ≤ 80) (h1 : 1 ≤ n) : zz_C mX5_isOrdered 4 0 0 [.ref 54, .int (nI r)] (pm MB MI (nI n) mt T) (zmQ n T (MB 55) (MB 56) mt (some (.int (zB true)))) := by
  have hle := orN_le (rl MB r) n
  cases hg : anb (fun k => rchB (rl MB r) n k k) n
  · have hr0 : orN (rl MB r) n = n := or_ring.mpr (fun q => absurd (hg.symm.trans (ring_b.mpr q)) (by decide))
    refine zz_start wPX5_isOrdered rfl rfl (Nat.le_of_ble_eq_true rfl) ?_
    refine zz_aload_n dX5_isOrdered_0 rfl ?_
    refine zz_iload_n dX5_isOrdered_1 rfl ?_
    refine zz_callV (ci := 5) (m_orders hr hn h1) dX5_isOrdered_2 zw_m_X5_128 wYX5_orders wDX5_orders rfl (by omega) pm_o rfl (Nat.le_of_ble_eq_true rfl) (by decide) (by omega) (by omega) rfl ?_ (fun E τ hE => by cases hE.1)
    rintro v9 τ9 ⟨hv9, S2, MI2, hord, rfl⟩
    cases hv9
    refine zz_aload_n dX5_isOrdered_5 rfl ?_
    refine zz_get (ci := 5) (j := 2) zz_inX5 rfl zw_f_X5_16 rfl (by decide) dX5_isOrdered_6 (by omega) pm_o rfl ?_
    refine zz_icmp_ne (tgt := 16) dX5_isOrdered_9 (by decide) (fun q => absurd (by rw [hr0]) q) (fun _ => ?_)
    refine zz_iconst (v := 1) dX5_isOrdered_12 (by decide) ?_
    refine zz_goto (tgt := 17) dX5_isOrdered_13 (by decide) ?_
    refine zz_istore_n dX5_isOrdered_17 (by decide) ?_
    refine zz_iload_n dX5_isOrdered_18 rfl ?_
    refine zz_aload_n dX5_isOrdered_19 rfl ?_
    refine zz_iload_n dX5_isOrdered_20 rfl ?_
    refine zz_callV (ci := 5) (m_ringed (MB := va_up MB 60 S2) hr hn) dX5_isOrdered_21 zw_m_X5_112 wYX5_isRinged wDX5_isRinged rfl (by omega) pm_o rfl (Nat.le_of_ble_eq_true rfl) (by decide) (by omega) (by omega) rfl ?_ (fun E τ hE => by cases hE.1)
    rintro v9 τ9 ⟨hv9, MI3, rfl⟩
    cases hv9
    rw [show (anb (fun k => rchB (rl (va_up MB 60 S2) r) n k k) n) = false from hg]
    refine zz_icmp_eq (tgt := 31) dX5_isOrdered_24 (by decide) (fun q => absurd q (by decide)) (fun _ => ?_)
    refine zz_iconst (v := 1) dX5_isOrdered_27 (by decide) ?_
    refine zz_goto (tgt := 32) dX5_isOrdered_28 (by decide) ?_
    refine zz_zret dX5_isOrdered_32 rfl (by first | rfl | exact zB_nar _) ?_
    exact ⟨rfl, va_up MB 60 S2, MI3, up_ne _ _ (by decide), up_ne _ _ (by decide), rfl⟩
  · have hr0 : orN (rl MB r) n ≠ n := fun q => or_ring.mp q (ring_b.mp hg)
    refine zz_start wPX5_isOrdered rfl rfl (Nat.le_of_ble_eq_true rfl) ?_
    refine zz_aload_n dX5_isOrdered_0 rfl ?_
    refine zz_iload_n dX5_isOrdered_1 rfl ?_
    refine zz_callV (ci := 5) (m_orders hr hn h1) dX5_isOrdered_2 zw_m_X5_128 wYX5_orders wDX5_orders rfl (by omega) pm_o rfl (Nat.le_of_ble_eq_true rfl) (by decide) (by omega) (by omega) rfl ?_ (fun E τ hE => by cases hE.1)
    rintro v9 τ9 ⟨hv9, S2, MI2, hord, rfl⟩
    cases hv9
    refine zz_aload_n dX5_isOrdered_5 rfl ?_
    refine zz_get (ci := 5) (j := 2) zz_inX5 rfl zw_f_X5_16 rfl (by decide) dX5_isOrdered_6 (by omega) pm_o rfl ?_
    refine zz_icmp_ne (tgt := 16) dX5_isOrdered_9 (by decide) (fun _ => ?_) (fun q => absurd ((nI_eq (by omega) (by omega)).mp q) hr0)
    refine zz_iconst (v := 0) dX5_isOrdered_16 (by decide) ?_
    refine zz_istore_n dX5_isOrdered_17 (by decide) ?_
    refine zz_iload_n dX5_isOrdered_18 rfl ?_
    refine zz_aload_n dX5_isOrdered_19 rfl ?_
    refine zz_iload_n dX5_isOrdered_20 rfl ?_
    refine zz_callV (ci := 5) (m_ringed (MB := va_up MB 60 S2) hr hn) dX5_isOrdered_21 zw_m_X5_112 wYX5_isRinged wDX5_isRinged rfl (by omega) pm_o rfl (Nat.le_of_ble_eq_true rfl) (by decide) (by omega) (by omega) rfl ?_ (fun E τ hE => by cases hE.1)
    rintro v9 τ9 ⟨hv9, MI3, rfl⟩
    cases hv9
    rw [show (anb (fun k => rchB (rl (va_up MB 60 S2) r) n k k) n) = true from hg]
    refine zz_icmp_eq (tgt := 31) dX5_isOrdered_24 (by decide) (fun q => absurd q (by decide)) (fun _ => ?_)
    refine zz_iconst (v := 1) dX5_isOrdered_27 (by decide) ?_
    refine zz_goto (tgt := 32) dX5_isOrdered_28 (by decide) ?_
    refine zz_zret dX5_isOrdered_32 rfl (by first | rfl | exact zB_nar _) ?_
    exact ⟨rfl, va_up MB 60 S2, MI3, up_ne _ _ (by decide), up_ne _ _ (by decide), rfl⟩
set_option maxHeartbeats 1000000 in
set_option maxRecDepth 20000 in
theorem ml_acJ {Q : zz_Q} (hn : n ≤ 80) {a b : Nat} (ha : a < n) (hb : b < n) (K : zz_E mX5_areComposed none 3 0 0 Q 156 [(4, .int (zB (anb (fun j => MB 55 (6400 * 0 + 80 * a + j) && MB 57 (80 * j + b)) n))), (3, .int (zB (anb (fun j => MB 59 (80 * a + j) && MB 55 (6400 * 2 + 80 * j + b)) n))), (2, .int (nI b)), (1, .int (nI a)), (0, .ref 54)] [] (pm MB MI (nI n) mt T)) : ∀ (m i : Nat), i + m = n → zz_E mX5_areComposed none 3 0 0 (Q) 67 [(5, .int (nI i)), (4, .int (zB (anb (fun j => MB 55 (6400 * 0 + 80 * a + j) && MB 57 (80 * j + b)) i))), (3, .int (zB (anb (fun j => MB 59 (80 * a + j) && MB 55 (6400 * 2 + 80 * j + b)) i))), (2, .int (nI b)), (1, .int (nI a)), (0, .ref 54)] [] (pm MB MI (nI n) mt T) := by
  intro m
  induction m with
  | zero =>
    intro i hi
    have hi : n = i := by omega
    subst hi
    refine zz_iload dX5_areComposed_67 rfl ?_
    refine zz_aload_n dX5_areComposed_69 rfl ?_
    refine zz_get (ci := 5) (j := 2) zz_inX5 rfl zw_f_X5_16 rfl (by decide) dX5_areComposed_70 (by omega) pm_o rfl ?_
    refine zz_icmp_ge (tgt := 156) dX5_areComposed_73 (by decide) (fun _ => ?_) (fun h => absurd (nI_le (by omega) (by omega)) h)
    refine zz_lvs (lv2 := [(4, .int (zB (anb (fun j => MB 55 (6400 * 0 + 80 * a + j) && MB 57 (80 * j + b)) n))), (3, .int (zB (anb (fun j => MB 59 (80 * a + j) && MB 55 (6400 * 2 + 80 * j + b)) n))), (2, .int (nI b)), (1, .int (nI a)), (0, .ref 54)]) (fun q hq => by simp only [List.mem_cons, List.not_mem_nil, or_false] at hq; rcases hq with rfl | rfl | rfl | rfl | rfl <;> simp [zz_up1, zz_up2, Value.category]) ?_
    exact K
  | succ m ih =>
    intro i hi
    refine zz_iload dX5_areComposed_67 rfl ?_
    refine zz_aload_n dX5_areComposed_69 rfl ?_
    refine zz_get (ci := 5) (j := 2) zz_inX5 rfl zw_f_X5_16 rfl (by decide) dX5_areComposed_70 (by omega) pm_o rfl ?_
    refine zz_icmp_ge (tgt := 156) dX5_areComposed_73 (by decide) (fun h => absurd h (nI_ge (by omega) (by omega))) (fun _ => ?_)
    suffices K : zz_E mX5_areComposed none 3 0 0 Q 111 [(5, .int (nI i)), (4, .int (zB (anb (fun j => MB 55 (6400 * 0 + 80 * a + j) && MB 57 (80 * j + b)) i))), (3, .int (zB (anb (fun j => MB 59 (80 * a + j) && MB 55 (6400 * 2 + 80 * j + b)) i))), (2, .int (nI b)), (1, .int (nI a)), (0, .ref 54)] [.int (zB (anb (fun j => MB 59 (80 * a + j) && MB 55 (6400 * 2 + 80 * j + b)) i || (MB 59 (80 * a + i) && MB 55 (6400 * 2 + 80 * i + b))))] (pm MB MI (nI n) mt T) by
      refine zz_iload_n dX5_areComposed_76 rfl ?_
      refine zz_if_ne (tgt := 106) dX5_areComposed_77 (by decide) (fun h77 => ?_) (fun h77 => ?_)
      · refine zz_iconst (v := 1) dX5_areComposed_106 (by decide) ?_
        refine zz_goto (tgt := 111) dX5_areComposed_107 (by decide) ?_
        refine zz_tope (y := zB (anb (fun j => MB 59 (80 * a + j) && MB 55 (6400 * 2 + 80 * j + b)) i || (MB 59 (80 * a + i) && MB 55 (6400 * 2 + 80 * i + b)))) (by first | (rw [zB_n.mp h77]; rfl) | (rw [zB_0.mp h77, zB_0.mp h92]; rfl) | (rw [zB_0.mp h77, zB_n.mp h92, zB_0.mp h103]; rfl) | (rw [zB_0.mp h77, zB_n.mp h92, zB_n.mp h103]; rfl)) ?_
        exact K
      · refine zz_aload_n dX5_areComposed_80 rfl ?_
        refine zz_get (ci := 5) (j := 6) zz_inX5 rfl zw_f_X5_26 rfl (by decide) dX5_areComposed_81 (by omega) pm_o rfl ?_
        refine zz_bipush (v := 80) dX5_areComposed_84 (by decide) ?_
        refine zz_iload_n dX5_areComposed_86 rfl ?_
        refine zz_imul dX5_areComposed_87 ?_
        refine zz_iload dX5_areComposed_88 rfl ?_
        refine zz_iadd dX5_areComposed_90 ?_
        refine zz_tope (y := nI (80 * a + i)) (by simp only [i80, i6400, pk_mul, nI_add, nI_1]) ?_
        refine zl_mb dX5_areComposed_91 (by omega) (by simp only [ml55, ml56, ml57, ml58, ml59, ml60, ml61]; omega) (by simp only [ml55, ml56, ml57, ml58, ml59, ml60, ml61]; omega) ?_
        refine zz_if_eq (tgt := 110) dX5_areComposed_92 (by decide) (fun h92 => ?_) (fun h92 => ?_)
        · refine zz_iconst (v := 0) dX5_areComposed_110 (by decide) ?_
          refine zz_tope (y := zB (anb (fun j => MB 59 (80 * a + j) && MB 55 (6400 * 2 + 80 * j + b)) i || (MB 59 (80 * a + i) && MB 55 (6400 * 2 + 80 * i + b)))) (by first | (rw [zB_n.mp h77]; rfl) | (rw [zB_0.mp h77, zB_0.mp h92]; rfl) | (rw [zB_0.mp h77, zB_n.mp h92, zB_0.mp h103]; rfl) | (rw [zB_0.mp h77, zB_n.mp h92, zB_n.mp h103]; rfl)) ?_
          exact K
        · refine zz_aload_n dX5_areComposed_95 rfl ?_
          refine zz_iconst (v := 2) dX5_areComposed_96 (by decide) ?_
          refine zz_iload dX5_areComposed_97 rfl ?_
          refine zz_iload_n dX5_areComposed_99 rfl ?_
          refine zz_callV1 (ci := 5) (m_leads (r := 2) (by decide) (show i < 80 by omega) (show b < 80 by omega)) dX5_areComposed_100 zw_m_X5_66 wYX5_leads wDX5_leads rfl (by omega) pm_o rfl (Nat.le_of_ble_eq_true rfl) (by decide) rfl ?_
          refine zz_if_eq (tgt := 110) dX5_areComposed_103 (by decide) (fun h103 => ?_) (fun h103 => ?_)
          · refine zz_iconst (v := 0) dX5_areComposed_110 (by decide) ?_
            refine zz_tope (y := zB (anb (fun j => MB 59 (80 * a + j) && MB 55 (6400 * 2 + 80 * j + b)) i || (MB 59 (80 * a + i) && MB 55 (6400 * 2 + 80 * i + b)))) (by first | (rw [zB_n.mp h77]; rfl) | (rw [zB_0.mp h77, zB_0.mp h92]; rfl) | (rw [zB_0.mp h77, zB_n.mp h92, zB_0.mp h103]; rfl) | (rw [zB_0.mp h77, zB_n.mp h92, zB_n.mp h103]; rfl)) ?_
            exact K
          · refine zz_iconst (v := 1) dX5_areComposed_106 (by decide) ?_
            refine zz_goto (tgt := 111) dX5_areComposed_107 (by decide) ?_
            refine zz_tope (y := zB (anb (fun j => MB 59 (80 * a + j) && MB 55 (6400 * 2 + 80 * j + b)) i || (MB 59 (80 * a + i) && MB 55 (6400 * 2 + 80 * i + b)))) (by first | (rw [zB_n.mp h77]; rfl) | (rw [zB_0.mp h77, zB_0.mp h92]; rfl) | (rw [zB_0.mp h77, zB_n.mp h92, zB_0.mp h103]; rfl) | (rw [zB_0.mp h77, zB_n.mp h92, zB_n.mp h103]; rfl)) ?_
            exact K
    refine zz_istore_n dX5_areComposed_111 (by decide) ?_
    refine zz_lvs (lv2 := [(5, .int (nI i)), (4, .int (zB (anb (fun j => MB 55 (6400 * 0 + 80 * a + j) && MB 57 (80 * j + b)) i))), (3, .int (zB (anb (fun j => MB 59 (80 * a + j) && MB 55 (6400 * 2 + 80 * j + b)) i || (MB 59 (80 * a + i) && MB 55 (6400 * 2 + 80 * i + b))))), (2, .int (nI b)), (1, .int (nI a)), (0, .ref 54)]) (fun q hq => by simp only [List.mem_cons, List.not_mem_nil, or_false] at hq; rcases hq with rfl | rfl | rfl | rfl | rfl | rfl <;> simp [zz_up1, zz_up2, Value.category, f4_3]) ?_
    suffices K : zz_E mX5_areComposed none 3 0 0 Q 148 [(5, .int (nI i)), (4, .int (zB (anb (fun j => MB 55 (6400 * 0 + 80 * a + j) && MB 57 (80 * j + b)) i))), (3, .int (zB (anb (fun j => MB 59 (80 * a + j) && MB 55 (6400 * 2 + 80 * j + b)) i || (MB 59 (80 * a + i) && MB 55 (6400 * 2 + 80 * i + b))))), (2, .int (nI b)), (1, .int (nI a)), (0, .ref 54)] [.int (zB (anb (fun j => MB 55 (6400 * 0 + 80 * a + j) && MB 57 (80 * j + b)) i || (MB 55 (6400 * 0 + 80 * a + i) && MB 57 (80 * i + b))))] (pm MB MI (nI n) mt T) by
      refine zz_iload dX5_areComposed_112 rfl ?_
      refine zz_if_ne (tgt := 143) dX5_areComposed_114 (by decide) (fun h114 => ?_) (fun h114 => ?_)
      · refine zz_iconst (v := 1) dX5_areComposed_143 (by decide) ?_
        refine zz_goto (tgt := 148) dX5_areComposed_144 (by decide) ?_
        refine zz_tope (y := zB (anb (fun j => MB 55 (6400 * 0 + 80 * a + j) && MB 57 (80 * j + b)) i || (MB 55 (6400 * 0 + 80 * a + i) && MB 57 (80 * i + b)))) (by first | (rw [zB_n.mp h114]; rfl) | (rw [zB_0.mp h114, zB_0.mp h125]; rfl) | (rw [zB_0.mp h114, zB_n.mp h125, zB_0.mp h140]; rfl) | (rw [zB_0.mp h114, zB_n.mp h125, zB_n.mp h140]; rfl)) ?_
        exact K
      · refine zz_aload_n dX5_areComposed_117 rfl ?_
        refine zz_iconst (v := 0) dX5_areComposed_118 (by decide) ?_
        refine zz_iload_n dX5_areComposed_119 rfl ?_
        refine zz_iload dX5_areComposed_120 rfl ?_
        refine zz_callV1 (ci := 5) (m_leads (r := 0) (by decide) (show a < 80 by omega) (show i < 80 by omega)) dX5_areComposed_122 zw_m_X5_66 wYX5_leads wDX5_leads rfl (by omega) pm_o rfl (Nat.le_of_ble_eq_true rfl) (by decide) rfl ?_
        refine zz_if_eq (tgt := 147) dX5_areComposed_125 (by decide) (fun h125 => ?_) (fun h125 => ?_)
        · refine zz_iconst (v := 0) dX5_areComposed_147 (by decide) ?_
          refine zz_tope (y := zB (anb (fun j => MB 55 (6400 * 0 + 80 * a + j) && MB 57 (80 * j + b)) i || (MB 55 (6400 * 0 + 80 * a + i) && MB 57 (80 * i + b)))) (by first | (rw [zB_n.mp h114]; rfl) | (rw [zB_0.mp h114, zB_0.mp h125]; rfl) | (rw [zB_0.mp h114, zB_n.mp h125, zB_0.mp h140]; rfl) | (rw [zB_0.mp h114, zB_n.mp h125, zB_n.mp h140]; rfl)) ?_
          exact K
        · refine zz_aload_n dX5_areComposed_128 rfl ?_
          refine zz_get (ci := 5) (j := 4) zz_inX5 rfl zw_f_X5_20 rfl (by decide) dX5_areComposed_129 (by omega) pm_o rfl ?_
          refine zz_bipush (v := 80) dX5_areComposed_132 (by decide) ?_
          refine zz_iload dX5_areComposed_134 rfl ?_
          refine zz_imul dX5_areComposed_136 ?_
          refine zz_iload_n dX5_areComposed_137 rfl ?_
          refine zz_iadd dX5_areComposed_138 ?_
          refine zz_tope (y := nI (80 * i + b)) (by simp only [i80, i6400, pk_mul, nI_add, nI_1]) ?_
          refine zl_mb dX5_areComposed_139 (by omega) (by simp only [ml55, ml56, ml57, ml58, ml59, ml60, ml61]; omega) (by simp only [ml55, ml56, ml57, ml58, ml59, ml60, ml61]; omega) ?_
          refine zz_if_eq (tgt := 147) dX5_areComposed_140 (by decide) (fun h140 => ?_) (fun h140 => ?_)
          · refine zz_iconst (v := 0) dX5_areComposed_147 (by decide) ?_
            refine zz_tope (y := zB (anb (fun j => MB 55 (6400 * 0 + 80 * a + j) && MB 57 (80 * j + b)) i || (MB 55 (6400 * 0 + 80 * a + i) && MB 57 (80 * i + b)))) (by first | (rw [zB_n.mp h114]; rfl) | (rw [zB_0.mp h114, zB_0.mp h125]; rfl) | (rw [zB_0.mp h114, zB_n.mp h125, zB_0.mp h140]; rfl) | (rw [zB_0.mp h114, zB_n.mp h125, zB_n.mp h140]; rfl)) ?_
            exact K
          · refine zz_iconst (v := 1) dX5_areComposed_143 (by decide) ?_
            refine zz_goto (tgt := 148) dX5_areComposed_144 (by decide) ?_
            refine zz_tope (y := zB (anb (fun j => MB 55 (6400 * 0 + 80 * a + j) && MB 57 (80 * j + b)) i || (MB 55 (6400 * 0 + 80 * a + i) && MB 57 (80 * i + b)))) (by first | (rw [zB_n.mp h114]; rfl) | (rw [zB_0.mp h114, zB_0.mp h125]; rfl) | (rw [zB_0.mp h114, zB_n.mp h125, zB_0.mp h140]; rfl) | (rw [zB_0.mp h114, zB_n.mp h125, zB_n.mp h140]; rfl)) ?_
            exact K
    refine zz_istore dX5_areComposed_148 (by decide) ?_
    refine zz_iinc (v := nI (i + 1)) dX5_areComposed_150 rfl (nI_1 i) (by decide) ?_
    refine zz_goto (tgt := 67) dX5_areComposed_153 (by decide) ?_
    have h9 := ih (i + 1) (by omega)
    refine zz_lvs (lv2 := [(5, .int (nI (i + 1))), (4, .int (zB (anb (fun j => MB 55 (6400 * 0 + 80 * a + j) && MB 57 (80 * j + b)) (i + 1)))), (3, .int (zB (anb (fun j => MB 59 (80 * a + j) && MB 55 (6400 * 2 + 80 * j + b)) (i + 1)))), (2, .int (nI b)), (1, .int (nI a)), (0, .ref 54)]) (fun q hq => by simp only [List.mem_cons, List.not_mem_nil, or_false] at hq; rcases hq with rfl | rfl | rfl | rfl | rfl | rfl <;> simp [zz_up1, zz_up2, Value.category, anb]) ?_
    exact h9
set_option maxHeartbeats 1000000 in
set_option maxRecDepth 20000 in
theorem ml_acI {Q : zz_Q} (hn : n ≤ 80) (hT : ∀ a b, a < n → b < n → MB 59 (80 * a + b) = cmG (MB 55) 0 1 n a b) (hU : ∀ a b, a < n → b < n → MB 57 (80 * a + b) = cmG (MB 55) 1 2 n a b) {a : Nat} (ha : a < n) (K : zz_E mX5_areComposed none 3 0 0 Q 170 [(2, .int (nI n)), (1, .int (nI a)), (0, .ref 54)] [] (pm MB MI (nI n) mt T)) : ∀ (m i : Nat), i + m = n → zz_E mX5_areComposed none 3 0 0 (Q) 51 [(2, .int (nI i)), (1, .int (nI a)), (0, .ref 54)] [] (pm MB MI (nI n) mt T) := by
  intro m
  induction m with
  | zero =>
    intro i hi
    have hi : n = i := by omega
    subst hi
    refine zz_iload_n dX5_areComposed_51 rfl ?_
    refine zz_aload_n dX5_areComposed_52 rfl ?_
    refine zz_get (ci := 5) (j := 2) zz_inX5 rfl zw_f_X5_16 rfl (by decide) dX5_areComposed_53 (by omega) pm_o rfl ?_
    refine zz_icmp_ge (tgt := 170) dX5_areComposed_56 (by decide) (fun _ => ?_) (fun h => absurd (nI_le (by omega) (by omega)) h)
    exact K
  | succ m ih =>
    intro i hi
    have hin : i < n := by omega
    have e5 : anb (fun j => MB 59 (80 * a + j) && MB 55 (6400 * 2 + 80 * j + i)) n = anb (fun j => MB 55 (6400 * 0 + 80 * a + j) && MB 57 (80 * j + i)) n := cm_as (A := rl MB 0) (B := rl MB 1) (C := rl MB 2) (T := fun i k => MB 59 (80 * i + k)) (U := fun i k => MB 57 (80 * i + k)) hT hU ha hin
    refine zz_iload_n dX5_areComposed_51 rfl ?_
    refine zz_aload_n dX5_areComposed_52 rfl ?_
    refine zz_get (ci := 5) (j := 2) zz_inX5 rfl zw_f_X5_16 rfl (by decide) dX5_areComposed_53 (by omega) pm_o rfl ?_
    refine zz_icmp_ge (tgt := 170) dX5_areComposed_56 (by decide) (fun h => absurd h (nI_ge (by omega) (by omega))) (fun _ => ?_)
    refine zz_iconst (v := 0) dX5_areComposed_59 (by decide) ?_
    refine zz_istore_n dX5_areComposed_60 (by decide) ?_
    refine zz_iconst (v := 0) dX5_areComposed_61 (by decide) ?_
    refine zz_istore dX5_areComposed_62 (by decide) ?_
    refine zz_iconst (v := 0) dX5_areComposed_64 (by decide) ?_
    refine zz_istore dX5_areComposed_65 (by decide) ?_
    refine zz_lvs (lv2 := [(5, .int 0), (4, .int 0), (3, .int 0), (2, .int (nI i)), (1, .int (nI a)), (0, .ref 54)]) (fun q hq => by simp only [List.mem_cons, List.not_mem_nil, or_false] at hq; rcases hq with rfl | rfl | rfl | rfl | rfl | rfl <;> simp [zz_up1, zz_up2, Value.category, f4_3, f4_2]) ?_
    refine ml_acJ (MB := MB) hn ha hin ?_ n 0 (by omega)
    rw [e5]
    refine zz_iload_n dX5_areComposed_156 rfl ?_
    refine zz_iload dX5_areComposed_157 rfl ?_
    refine zz_icmp_eq (tgt := 164) dX5_areComposed_159 (by decide) (fun _ => ?_) (fun q => absurd rfl q)
    refine zz_iinc (v := nI (i + 1)) dX5_areComposed_164 rfl (nI_1 i) (by decide) ?_
    refine zz_goto (tgt := 51) dX5_areComposed_167 (by decide) ?_
    have h9 := ih (i + 1) (by omega)
    refine zz_lvs (fun q hq => ?_) h9
    simp only [List.mem_cons, List.not_mem_nil, or_false] at hq
    rcases hq with rfl | rfl | rfl <;> simp [zz_up1, zz_up2, Value.category, f4_1, f4_2, f4_3]
set_option maxHeartbeats 1000000 in
set_option maxRecDepth 20000 in
theorem ml_acO {Q : zz_Q} (hn : n ≤ 80) (hT : ∀ a b, a < n → b < n → MB 59 (80 * a + b) = cmG (MB 55) 0 1 n a b) (hU : ∀ a b, a < n → b < n → MB 57 (80 * a + b) = cmG (MB 55) 1 2 n a b) (hQ : Q (.inl (some (.int (zB true)))) (pm MB MI (nI n) mt T)) : ∀ (m i : Nat), i + m = n → zz_E mX5_areComposed none 3 0 0 (Q) 41 [(1, .int (nI i)), (0, .ref 54)] [] (pm MB MI (nI n) mt T) := by
  intro m
  induction m with
  | zero =>
    intro i hi
    have hi : n = i := by omega
    subst hi
    refine zz_iload_n dX5_areComposed_41 rfl ?_
    refine zz_aload_n dX5_areComposed_42 rfl ?_
    refine zz_get (ci := 5) (j := 2) zz_inX5 rfl zw_f_X5_16 rfl (by decide) dX5_areComposed_43 (by omega) pm_o rfl ?_
    refine zz_icmp_ge (tgt := 176) dX5_areComposed_46 (by decide) (fun _ => ?_) (fun h => absurd (nI_le (by omega) (by omega)) h)
    refine zz_iconst (v := 1) dX5_areComposed_176 (by decide) ?_
    refine zz_zret dX5_areComposed_177 rfl (by first | rfl | exact zB_nar _) ?_
    exact hQ
  | succ m ih =>
    intro i hi
    refine zz_iload_n dX5_areComposed_41 rfl ?_
    refine zz_aload_n dX5_areComposed_42 rfl ?_
    refine zz_get (ci := 5) (j := 2) zz_inX5 rfl zw_f_X5_16 rfl (by decide) dX5_areComposed_43 (by omega) pm_o rfl ?_
    refine zz_icmp_ge (tgt := 176) dX5_areComposed_46 (by decide) (fun h => absurd h (nI_ge (by omega) (by omega))) (fun _ => ?_)
    refine zz_iconst (v := 0) dX5_areComposed_49 (by decide) ?_
    refine zz_istore_n dX5_areComposed_50 (by decide) ?_
    refine ml_acI hn hT hU (a := i) (by omega) ?_ n 0 (by omega)
    refine zz_iinc (v := nI (i + 1)) dX5_areComposed_170 rfl (nI_1 i) (by decide) ?_
    refine zz_goto (tgt := 41) dX5_areComposed_173 (by decide) ?_
    have h9 := ih (i + 1) (by omega)
    refine zz_lvs (fun q hq => ?_) h9
    simp only [List.mem_cons, List.not_mem_nil, or_false] at hq
    rcases hq with rfl | rfl <;> simp [zz_up1, zz_up2, Value.category, f4_1, f4_2, f4_3]
set_option maxHeartbeats 1000000 in
set_option maxRecDepth 20000 in
theorem ml_acT {Q : zz_Q} (K : zz_E mX5_areComposed none 3 0 0 Q 33 [(1, .int (nI 6400)), (0, .ref 54)] [] (pm (va_up MB 59 (cpy 6400 (MB 57) (MB 59))) MI (nI n) mt T)) : ∀ (m i : Nat), i + m = 6400 → zz_E mX5_areComposed none 3 0 0 (Q) 8 [(1, .int (nI i)), (0, .ref 54)] [] (pm (va_up MB 59 (cpy i (MB 57) (MB 59))) MI (nI n) mt T) := by
  intro m
  induction m with
  | zero =>
    intro i hi
    have hi : i = 6400 := by omega
    subst hi
    refine zz_iload_n dX5_areComposed_8 rfl ?_
    refine zz_sipush (v := 6400) dX5_areComposed_9 (by decide) ?_
    refine zz_icmp_ge (tgt := 33) dX5_areComposed_12 (by decide) (fun _ => ?_) (fun h => absurd (nI_le (a := 6400) (by omega) (by omega)) h)
    exact K
  | succ m ih =>
    intro i hi
    refine zz_iload_n dX5_areComposed_8 rfl ?_
    refine zz_sipush (v := 6400) dX5_areComposed_9 (by decide) ?_
    refine zz_icmp_ge (tgt := 33) dX5_areComposed_12 (by decide) (fun h => absurd h (nI_ge (b := 6400) (by omega) (by omega))) (fun _ => ?_)
    refine zz_aload_n dX5_areComposed_15 rfl ?_
    refine zz_get (ci := 5) (j := 6) zz_inX5 rfl zw_f_X5_26 rfl (by decide) dX5_areComposed_16 (by omega) pm_o rfl ?_
    refine zz_iload_n dX5_areComposed_19 rfl ?_
    refine zz_aload_n dX5_areComposed_20 rfl ?_
    refine zz_get (ci := 5) (j := 4) zz_inX5 rfl zw_f_X5_20 rfl (by decide) dX5_areComposed_21 (by omega) pm_o rfl ?_
    refine zz_iload_n dX5_areComposed_24 rfl ?_
    refine zl_mb dX5_areComposed_25 (by omega) (by simp only [ml55, ml56, ml57, ml58, ml59, ml60, ml61]; omega) (by simp only [ml55, ml56, ml57, ml58, ml59, ml60, ml61]; omega) ?_
    rw [up_ne _ _ (show (57 : Nat) ≠ 59 by decide)]
    refine zs_mb dX5_areComposed_26 (by omega) (by simp only [ml55, ml56, ml57, ml58, ml59, ml60, ml61]; omega) (by simp only [ml55, ml56, ml57, ml58, ml59, ml60, ml61]; omega) ?_
    refine zz_iinc (v := nI (i + 1)) dX5_areComposed_27 rfl (nI_1 i) (by decide) ?_
    refine zz_goto (tgt := 8) dX5_areComposed_30 (by decide) ?_
    have h9 := ih (i + 1) (by omega)
    rw [← cpy_s i] at h9
    simp only [up_at, up_up]
    exact h9
set_option maxHeartbeats 1000000 in
set_option maxRecDepth 20000 in
theorem m_areComposed (hn : n ≤ 80) : zz_C mX5_areComposed 3 0 0 [.ref 54] (pm MB MI (nI n) mt T) (zmQ n T (MB 55) (MB 56) mt (some (.int (zB true)))) := by
  refine zz_start wPX5_areComposed rfl rfl (Nat.le_of_ble_eq_true rfl) ?_
  refine zz_aload_n dX5_areComposed_0 rfl ?_
  refine zz_iconst (v := 0) dX5_areComposed_1 (by decide) ?_
  refine zz_iconst (v := 1) dX5_areComposed_2 (by decide) ?_
  refine zz_callV0 (ci := 5) (m_composes (a := 0) (b := 1) (by decide) (by decide) hn) dX5_areComposed_3 zw_m_X5_98 wYX5_composes wDX5_composes rfl (by omega) pm_o rfl (Nat.le_of_ble_eq_true rfl) (by decide) rfl ?_
  refine zz_iconst (v := 0) dX5_areComposed_6 (by decide) ?_
  refine zz_istore_n dX5_areComposed_7 (by decide) ?_
  have h9 := fun Q K => ml_acT (MB := (va_up MB 57 (gs (MB 57) 0 n n 0 (cmG (MB 55) 0 1 n)))) (MI := MI) (mt := mt) (T := T) (n := n) (Q := Q) K 6400 0 (by omega)
  rw [cpy_0, up_self] at h9
  refine h9 _ ?_
  refine zz_aload_n dX5_areComposed_33 rfl ?_
  refine zz_iconst (v := 1) dX5_areComposed_34 (by decide) ?_
  refine zz_iconst (v := 2) dX5_areComposed_35 (by decide) ?_
  refine zz_callV0 (ci := 5) (m_composes (MB := (va_up (va_up MB 57 (gs (MB 57) 0 n n 0 (cmG (MB 55) 0 1 n))) 59 (cpy 6400 ((va_up MB 57 (gs (MB 57) 0 n n 0 (cmG (MB 55) 0 1 n))) 57) ((va_up MB 57 (gs (MB 57) 0 n n 0 (cmG (MB 55) 0 1 n))) 59)))) (a := 1) (b := 2) (by decide) (by decide) hn) dX5_areComposed_36 zw_m_X5_98 wYX5_composes wDX5_composes rfl (by omega) pm_o rfl (Nat.le_of_ble_eq_true rfl) (by decide) rfl ?_
  refine zz_iconst (v := 0) dX5_areComposed_39 (by decide) ?_
  refine zz_istore_n dX5_areComposed_40 (by decide) ?_
  refine ml_acO (MB := (va_up (va_up (va_up MB 57 (gs (MB 57) 0 n n 0 (cmG (MB 55) 0 1 n))) 59 (cpy 6400 ((va_up MB 57 (gs (MB 57) 0 n n 0 (cmG (MB 55) 0 1 n))) 57) ((va_up MB 57 (gs (MB 57) 0 n n 0 (cmG (MB 55) 0 1 n))) 59))) 57 (gs ((va_up (va_up MB 57 (gs (MB 57) 0 n n 0 (cmG (MB 55) 0 1 n))) 59 (cpy 6400 ((va_up MB 57 (gs (MB 57) 0 n n 0 (cmG (MB 55) 0 1 n))) 57) ((va_up MB 57 (gs (MB 57) 0 n n 0 (cmG (MB 55) 0 1 n))) 59))) 57) 0 n n 0 (cmG ((va_up (va_up MB 57 (gs (MB 57) 0 n n 0 (cmG (MB 55) 0 1 n))) 59 (cpy 6400 ((va_up MB 57 (gs (MB 57) 0 n n 0 (cmG (MB 55) 0 1 n))) 57) ((va_up MB 57 (gs (MB 57) 0 n n 0 (cmG (MB 55) 0 1 n))) 59))) 55) 1 2 n)))) hn (fun a b ha hb => ?_) (fun a b ha hb => ?_) ⟨rfl, _, MI, ?_, ?_, rfl⟩ n 0 (by omega)
  · simp only [up_at, up_ne _ _ (show (59 : Nat) ≠ 57 by decide), up_ne _ _ (show (55 : Nat) ≠ 57 by decide), up_ne _ _ (show (55 : Nat) ≠ 59 by decide)]
    rw [cpy_lt (by omega)]
    exact gs0_get hn ha hb
  · simp only [up_at, up_ne _ _ (show (55 : Nat) ≠ 57 by decide), up_ne _ _ (show (55 : Nat) ≠ 59 by decide)]
    exact gs0_get hn ha hb
  · simp only [up_ne _ _ (show (55 : Nat) ≠ 57 by decide), up_ne _ _ (show (55 : Nat) ≠ 59 by decide)]
  · simp only [up_ne _ _ (show (56 : Nat) ≠ 57 by decide), up_ne _ _ (show (56 : Nat) ≠ 59 by decide)]
set_option maxHeartbeats 1000000 in
set_option maxRecDepth 20000 in
theorem ml_err (hn : n ≤ 80) (h1 : 1 ≤ n) (f g : Nat → Bool) : ∀ (m i : Nat), i + m = 3 → ∀ (MB : Nat → Nat → Bool) (MI : Nat → Nat → Int32), MB 55 = f → MB 56 = g → zz_E mX5_errors none 5 0 0 (zmQ n T f g 0 (some (.int 0))) 15 [(2, .int (nI i)), (1, .int 0), (0, .ref 54)] [] (pm MB MI (nI n) mt T) := by
  intro m
  induction m with
  | zero =>
    intro i hi MB MI hf hg
    have hi : i = 3 := by omega
    subst hi
    refine zz_iload_n dX5_errors_15 rfl ?_
    refine zz_iconst (v := 3) dX5_errors_16 (by decide) ?_
    refine zz_icmp_ge (tgt := 58) dX5_errors_17 (by decide) (fun _ => ?_) (fun q => absurd (by decide) q)
    refine zz_aload_n dX5_errors_58 rfl ?_
    refine zz_iload_n dX5_errors_59 rfl ?_
    refine zz_callV1 (ci := 5) (m_told _) dX5_errors_60 zw_m_X5_80 wYX5_told wDX5_told rfl (by omega) pm_o rfl (Nat.le_of_ble_eq_true rfl) (by decide) rfl ?_
    refine zz_iret dX5_errors_63 rfl ?_
    exact ⟨rfl, MB, MI, hf, hg, rfl⟩
  | succ m ih =>
    intro i hi MB MI hf hg
    refine zz_iload_n dX5_errors_15 rfl ?_
    refine zz_iconst (v := 3) dX5_errors_16 (by decide) ?_
    refine zz_icmp_ge (tgt := 58) dX5_errors_17 (by decide) (fun q => absurd q (nI_ge (b := 3) (by omega) (by omega))) (fun _ => ?_)
    refine zz_iload_n dX5_errors_20 rfl ?_
    refine zz_aload_n dX5_errors_21 rfl ?_
    refine zz_iload_n dX5_errors_22 rfl ?_
    refine zz_callV (ci := 5) (m_isClosed (MB := MB) (show i < 4 by omega) hn) dX5_errors_23 zw_m_X5_139 wYX5_isClosed wDX5_isClosed rfl (by omega) pm_o rfl (Nat.le_of_ble_eq_true rfl) (by decide) (by omega) (by omega) rfl ?_ (fun E τ hE => by cases hE.1)
    rintro v9 τ9 ⟨hv9, MB3, MI3, h55, h56, rfl⟩
    cases hv9
    refine zz_if_eq (tgt := 33) dX5_errors_26 (by decide) (fun q => absurd q (by decide)) (fun _ => ?_)
    refine zz_iconst (v := 0) dX5_errors_29 (by decide) ?_
    refine zz_goto (tgt := 34) dX5_errors_30 (by decide) ?_
    refine zz_iadd dX5_errors_34 ?_
    refine zz_istore_n dX5_errors_35 (by decide) ?_
    refine zz_iload_n dX5_errors_36 rfl ?_
    refine zz_aload_n dX5_errors_37 rfl ?_
    refine zz_iload_n dX5_errors_38 rfl ?_
    refine zz_callV (ci := 5) (m_isOrdered (MB := MB3) (show i < 4 by omega) hn h1) dX5_errors_39 zw_m_X5_142 wYX5_isOrdered wDX5_isOrdered rfl (by omega) pm_o rfl (Nat.le_of_ble_eq_true rfl) (by decide) (by omega) (by omega) rfl ?_ (fun E τ hE => by cases hE.1)
    rintro v9 τ9 ⟨hv9, MB4, MI4, h75, h76, rfl⟩
    cases hv9
    refine zz_if_eq (tgt := 49) dX5_errors_42 (by decide) (fun q => absurd q (by decide)) (fun _ => ?_)
    refine zz_iconst (v := 0) dX5_errors_45 (by decide) ?_
    refine zz_goto (tgt := 50) dX5_errors_46 (by decide) ?_
    refine zz_iadd dX5_errors_50 ?_
    refine zz_istore_n dX5_errors_51 (by decide) ?_
    refine zz_iinc (v := nI (i + 1)) dX5_errors_52 rfl (nI_1 i) (by decide) ?_
    refine zz_goto (tgt := 15) dX5_errors_55 (by decide) ?_
    have h9 := ih (i + 1) (by omega) MB4 MI4 (by rw [h75, h55, hf]) (by rw [h76, h56, hg])
    refine zz_lvs (fun q hq => ?_) h9
    simp only [List.mem_cons, List.not_mem_nil, or_false] at hq
    rcases hq with rfl | rfl | rfl <;> simp [zz_up1, zz_up2, Value.category, f4_1, f4_2, f4_3]
set_option maxHeartbeats 1000000 in
set_option maxRecDepth 20000 in
theorem m_errors (hn : n ≤ 80) (h1 : 1 ≤ n) : zz_C mX5_errors 5 0 0 [.ref 54] (pm MB MI (nI n) mt T) (zmQ n T (MB 55) (MB 56) 0 (some (.int 0))) := by
  refine zz_start wPX5_errors rfl rfl (Nat.le_of_ble_eq_true rfl) ?_
  refine zz_aload_n dX5_errors_0 rfl ?_
  refine zz_callV (ci := 5) (m_areComposed (MB := MB) hn) dX5_errors_1 zw_m_X5_135 wYX5_areComposed wDX5_areComposed rfl (by omega) pm_o rfl (Nat.le_of_ble_eq_true rfl) (by decide) (by omega) (by omega) rfl ?_ (fun E τ hE => by cases hE.1)
  rintro v9 τ9 ⟨hv9, MB3, MI3, h55, h56, rfl⟩
  cases hv9
  refine zz_if_eq (tgt := 11) dX5_errors_4 (by decide) (fun q => absurd q (by decide)) (fun _ => ?_)
  refine zz_iconst (v := 0) dX5_errors_7 (by decide) ?_
  refine zz_goto (tgt := 12) dX5_errors_8 (by decide) ?_
  refine zz_istore_n dX5_errors_12 (by decide) ?_
  refine zz_iconst (v := 0) dX5_errors_13 (by decide) ?_
  refine zz_istore_n dX5_errors_14 (by decide) ?_
  exact ml_err hn h1 (MB 55) (MB 56) 3 0 (by omega) MB3 MI3 h55 h56
end ZZM13
