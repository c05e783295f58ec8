section ZYS
variable {El : Nat → Int32} {Lo Hi : Nat → Nat → Int64} {BL BH : Nat → Int64} {Od : Nat → Nat → Int32} {Ls : Nat → Int32} {n : Nat} {R : Nat → Nat → Nat → Bool} {mk : Nat → Bool} {MB : Nat → Nat → Bool} {rho nu : Nat → Int32} {T : zz_St}
theorem dm_v {k : Nat} (hk : k < n) (h0 : mk k = true) (hI : cI n El Lo Hi BL BH R mk) : zz_C mL_done 8 1 6 [.ref 52, .int 7, .int (nI (cnt mk k)), .int 0, .int 0] (px El Lo Hi BL BH Od Ls (nI n) T) (fun o τ => o = .inl (some (.int (nI k))) ∧ τ = px El Lo Hi BL BH Od Ls (nI n) T) := by
  have hn := cI_n hI
  refine d_markedAt px_x _ 0 0 (x_markedAt (nI (cnt mk k)) hI) (Q := fun o τ => o = .inl (some (.int (nI k))) ∧ τ = px El Lo Hi BL BH Od Ls (nI n) T) (fun v τ h => ?_) (fun E τ h => ?_)
  · obtain ⟨h1, h2⟩ := h
    rw [ff_k hn hk h0, if_neg (by omega)] at h2
    exact ⟨_, Sum.inl.inj h2, rfl, h1⟩
  · obtain ⟨h1, h2⟩ := h
    rw [ff_k hn hk h0, if_neg (by omega)] at h2
    cases h2
theorem dm_x (h0 : ∀ k, k < n → mk k = false) (v : Int32) (hI : cI n El Lo Hi BL BH R mk) : zz_C mL_done 8 1 6 [.ref 52, .int 7, .int v, .int 0, .int 0] (px El Lo Hi BL BH Od Ls (nI n) T) (fun o τ => o = .inl (some (.int (-4))) ∧ τ = px El Lo Hi BL BH Od Ls (nI n) T) := by
  refine d_markedAt px_x _ 0 0 (x_markedAt v hI) (Q := fun o τ => o = .inl (some (.int (-4))) ∧ τ = px El Lo Hi BL BH Od Ls (nI n) T) (fun w τ h => ?_) (fun E τ h => ?_)
  · obtain ⟨h1, h2⟩ := h
    rw [ff_no h0, if_pos rfl] at h2
    cases h2
  · obtain ⟨h1, h2⟩ := h
    rw [ff_no h0, if_pos rfl] at h2
    exact ⟨Sum.inr.inj h2, rfl, h1⟩
theorem cnt_one {P : Nat → Bool} {b : Nat} (hp : P b = true) : ∀ {m : Nat}, b < m → (∀ k, k < m → k ≠ b → P k = false) → cnt P m = 1
  | 0, h, _ => absurd h (Nat.not_lt_zero b)
  | m + 1, h, h2 => by
    rw [cnt_0]
    by_cases q : b = m
    · subst q
      rw [if_pos hp, cnt_z (fun k hk => h2 k (by omega) (by omega))]
    · rw [if_neg (by rw [h2 m (by omega) (fun e => q e.symm)]; decide)]
      exact cnt_one hp (by omega) (fun k h3 h4 => h2 k (by omega) h4)
set_option maxHeartbeats 1000000 in
set_option maxRecDepth 20000 in
theorem sp_287 {r b : Nat} (hr : r < 4) (hb : b < n) (hm : ∀ k, k < n → mk k = rchB (R r) n b k) (hI : cI n El Lo Hi BL BH R mk) : zz_E mL_spreads none 9 2 12 (trQ n T) 287 [(12, .int (nI (cnt (rchB (R r) n b) n))), (11, .int (nI (cnt (rchB (R r) n b) n))), (8, .int 1), (7, .int (nI b)), (0, .ref 52), (1, .ref 57), (2, .int (nI r)), (3, .int (nI n)), (4, .ref 54), (5, .ref 55)] [] (px El Lo Hi BL BH Od Ls (nI n) (pl MB rho nu T)) := by
  have hn := cI_n hI
  have h1 := cI_1 hI
  have e1 : cnt (ptS mk 0 0 true) n = cnt (rchB (R r) n b) n := cnt_c (fun k hk => by
    unfold ptS
    rw [if_neg (by omega)]
    exact hm k hk)
  have hG : isG n 1 0 = false := by
    unfold isG
    rw [show decide ((1 : Int32) ≤ 0) = false by decide, Bool.false_and, Bool.and_false]
  refine zz_iload dL_spreads_287 rfl ?_
  refine zz_if_eq (tgt := 328) dL_spreads_289 (by decide) (fun h => absurd h (by decide)) (fun _ => ?_)
  refine zz_iload dL_spreads_292 rfl ?_
  refine zz_iload dL_spreads_294 rfl ?_
  refine zz_icmp_ne (tgt := 328) dL_spreads_296 (by decide) (fun h => absurd rfl h) (fun _ => ?_)
  refine zz_aload_n dL_spreads_299 rfl ?_
  refine zz_iconst (v := 0) dL_spreads_300 (by decide) ?_
  refine zz_iconst (v := 0) dL_spreads_301 (by decide) ?_
  refine zz_iconst (v := 1) dL_spreads_302 (by decide) ?_
  refine zz_callV (ci := 4) (x_mark_v (a := 0) (e := 0) (Nat.le_refl 0) (Nat.zero_le n) true hI) dL_spreads_303 zw_m_L_37 wYX4_mark wDX4_mark rfl (by omega) px_x rfl (Nat.le_of_ble_eq_true rfl) (by decide) (by omega) (by omega) rfl ?_ (fun E τ hE => by cases hE.1)
  rintro v1 τ1 ⟨hv1, El1, Lo1, Hi1, BL1, BH1, Od1, Ls1, hI1, rfl⟩
  cases hv1
  refine zz_iload dL_spreads_306 rfl ?_
  refine zz_icmp_ne (tgt := 328) dL_spreads_308 (by decide) (fun h => absurd (by rw [e1]) h) (fun _ => ?_)
  refine zz_aload_n dL_spreads_311 rfl ?_
  refine zz_bipush (v := 6) dL_spreads_312 (by decide) ?_
  refine zz_iconst (v := 1) dL_spreads_314 (by decide) ?_
  refine zz_iconst (v := 0) dL_spreads_315 (by decide) ?_
  refine zz_iconst (v := 1) dL_spreads_316 (by decide) ?_
  refine zz_callSH rfl (dxIO_mark px_x 1 0 1 (x_mark_1 hG _)) dL_spreads_317 zw_m_L_72 wYL_done wDL_done rfl (Nat.le_of_ble_eq_true rfl) (by decide) (by omega) (by omega) rfl ?_ (fun E τ hE => by cases hE.1)
  rintro v2 τ2 ⟨hv2, rfl⟩
  cases hv2
  refine zz_iconst (v := (-1)) dL_spreads_320 (by decide) ?_
  refine zz_icmp_ne (tgt := 328) dL_spreads_321 (by decide) (fun h => absurd rfl h) (fun _ => ?_)
  refine zz_iconst (v := 1) dL_spreads_324 (by decide) ?_
  refine zz_goto (tgt := 329) dL_spreads_325 (by decide) ?_
  refine zz_zret dL_spreads_329 rfl (by first | rfl | exact zB_nar _) ?_
  exact trQ_i hI1
set_option maxHeartbeats 1000000 in
set_option maxRecDepth 20000 in
theorem sp_251 {r b : Nat} (hb : b < n) (hn : n ≤ 80) (hg : gr n (MB 55) (rchB (R r) n)) {z : Int32} (rc rz : Nat) (K : zz_E mL_spreads none 9 rc rz (trQ n T) 287 [(12, .int (nI (cnt (rchB (R r) n b) n))), (11, .int z), (8, .int 1), (7, .int (nI b)), (0, .ref 52), (1, .ref 57), (2, .int (nI r)), (3, .int (nI n)), (4, .ref 54), (5, .ref 55)] [] (px El Lo Hi BL BH Od Ls (nI n) (pl MB rho nu T))) : ∀ (m i : Nat), i + m = n → zz_E mL_spreads none 9 rc rz (trQ n T) 251 [(13, .int (nI i)), (12, .int (nI (cnt (rchB (R r) n b) i))), (11, .int z), (8, .int 1), (7, .int (nI b)), (0, .ref 52), (1, .ref 57), (2, .int (nI r)), (3, .int (nI n)), (4, .ref 54), (5, .ref 55)] [] (px El Lo Hi BL BH Od Ls (nI n) (pl MB rho nu T)) := by
  intro m
  induction m with
  | zero =>
    intro i hi
    have hk : n = i := by omega
    subst hk
    refine zz_iload dL_spreads_251 rfl ?_
    refine zz_iload_n dL_spreads_253 rfl ?_
    refine zz_icmp_ge (tgt := 287) dL_spreads_254 (by decide) (fun _ => ?_) (fun h => absurd (nI_le (Nat.le_refl _) (by omega)) h)
    refine zz_lvl (lv2 := [(12, .int (nI (cnt (rchB (R r) n b) n))), (11, .int z), (8, .int 1), (7, .int (nI b)), (0, .ref 52), (1, .ref 57), (2, .int (nI r)), (3, .int (nI n)), (4, .ref 54), (5, .ref 55)]) ⟨rfl, rfl, rfl, rfl, rfl, rfl, rfl, rfl, rfl, rfl, trivial⟩ ?_
    exact K
  | succ m ih =>
    intro i hi
    have hk : i < n := by omega
    refine zz_iload dL_spreads_251 rfl ?_
    refine zz_iload_n dL_spreads_253 rfl ?_
    refine zz_icmp_ge (tgt := 287) dL_spreads_254 (by decide) (fun h => absurd h (nI_ge (by omega) (by omega))) (fun _ => ?_)
    refine zz_iload dL_spreads_257 rfl ?_
    refine zz_aload dL_spreads_259 rfl ?_
    refine zz_bipush (v := 80) dL_spreads_261 (by decide) ?_
    refine zz_iload dL_spreads_263 rfl ?_
    refine zz_imul dL_spreads_265 ?_
    refine zz_iload dL_spreads_266 rfl ?_
    refine zz_iadd dL_spreads_268 ?_
    refine zz_tope (y := nI (80 * b + i)) (by simp only [i80, i81, pk_mul, nI_add, nI_1]) ?_
    refine zl_qb dL_spreads_269 (by omega) (by omega) ?_
    rw [hg b i hb hk]
    refine zz_if_eq (tgt := 277) dL_spreads_270 (by decide) (fun h270 => ?_) (fun h270 => ?_)
    · refine zz_iconst (v := 0) dL_spreads_277 (by decide) ?_
      refine zz_iadd dL_spreads_278 ?_
      refine zz_tope (y := nI (cnt (rchB (R r) n b) (i + 1))) (by first | (rw [cnt_st (zB_n.mp h270), nI_1]) | (rw [cnt_sf (zB_0.mp h270), nI_a0])) ?_
      refine zz_istore dL_spreads_279 (by decide) ?_
      refine zz_iinc (v := nI (i + 1)) dL_spreads_281 rfl (nI_1 i) (by decide) ?_
      refine zz_goto (tgt := 251) dL_spreads_284 (by decide) ?_
      refine zz_lvl (lv2 := [(13, .int (nI (i + 1))), (12, .int (nI (cnt (rchB (R r) n b) (i + 1)))), (11, .int z), (8, .int 1), (7, .int (nI b)), (0, .ref 52), (1, .ref 57), (2, .int (nI r)), (3, .int (nI n)), (4, .ref 54), (5, .ref 55)]) ⟨rfl, rfl, rfl, rfl, rfl, rfl, rfl, rfl, rfl, rfl, rfl, trivial⟩ ?_
      exact ih (i + 1) (by omega)
    · refine zz_iconst (v := 1) dL_spreads_273 (by decide) ?_
      refine zz_goto (tgt := 278) dL_spreads_274 (by decide) ?_
      refine zz_iadd dL_spreads_278 ?_
      refine zz_tope (y := nI (cnt (rchB (R r) n b) (i + 1))) (by first | (rw [cnt_st (zB_n.mp h270), nI_1]) | (rw [cnt_sf (zB_0.mp h270), nI_a0])) ?_
      refine zz_istore dL_spreads_279 (by decide) ?_
      refine zz_iinc (v := nI (i + 1)) dL_spreads_281 rfl (nI_1 i) (by decide) ?_
      refine zz_goto (tgt := 251) dL_spreads_284 (by decide) ?_
      refine zz_lvl (lv2 := [(13, .int (nI (i + 1))), (12, .int (nI (cnt (rchB (R r) n b) (i + 1)))), (11, .int z), (8, .int 1), (7, .int (nI b)), (0, .ref 52), (1, .ref 57), (2, .int (nI r)), (3, .int (nI n)), (4, .ref 54), (5, .ref 55)]) ⟨rfl, rfl, rfl, rfl, rfl, rfl, rfl, rfl, rfl, rfl, rfl, trivial⟩ ?_
      exact ih (i + 1) (by omega)
set_option maxHeartbeats 1000000 in
set_option maxRecDepth 20000 in
theorem sp_218 {r b : Nat} (hr : r < 4) (hb : b < n) (hg : gr n (MB 55) (rchB (R r) n)) : ∀ (m : Nat) (P : Nat → Bool), n - cnt P n < m → spI n (R r) b P → ∀ (mk : Nat → Bool) (El : Nat → Int32) (Lo Hi : Nat → Nat → Int64) (BL BH : Nat → Int64) (Od : Nat → Nat → Int32) (Ls : Nat → Int32), cI n El Lo Hi BL BH R mk → (∀ k, k < n → mk k = spS n (R r) P k) → zz_E mL_spreads none 9 (m + 2) (6 * m + 12) (trQ n T) 218 [(11, .int (nI (cnt (spS n (R r) P) n))), (10, .int (nI (cnt P n))), (8, .int 1), (7, .int (nI b)), (0, .ref 52), (1, .ref 57), (2, .int (nI r)), (3, .int (nI n)), (4, .ref 54), (5, .ref 55)] [] (px El Lo Hi BL BH Od Ls (nI n) (pl MB rho nu T)) := by
  intro m
  induction m with
  | zero =>
    intro P hm
    exact absurd hm (Nat.not_lt_zero _)
  | succ m ih =>
    intro P hm hs mk El Lo Hi BL BH Od Ls hI hmk
    have hn := cI_n hI
    have c1 := cnt_le (spS n (R r) P) n
    have c2 := cnt_le P n
    refine zz_iload dL_spreads_218 rfl ?_
    refine zz_if_eq (tgt := 245) dL_spreads_220 (by decide) (fun h => absurd h (by decide)) (fun _ => ?_)
    refine zz_iload dL_spreads_223 rfl ?_
    refine zz_iload dL_spreads_225 rfl ?_
    refine zz_icmp_le (tgt := 245) dL_spreads_227 (by decide) (fun h227 => ?_) (fun h227 => ?_)
    · have hle : cnt (spS n (R r) P) n ≤ cnt P n := (nI_leI (by omega) (by omega)).mp h227
      have hfin := spI_e hb hs hle
      have hq : cnt (spS n (R r) P) n = cnt (rchB (R r) n b) n := cnt_c hfin
      refine zz_iconst (v := 0) dL_spreads_245 (by decide) ?_
      refine zz_istore dL_spreads_246 (by decide) ?_
      refine zz_iconst (v := 0) dL_spreads_248 (by decide) ?_
      refine zz_istore dL_spreads_249 (by decide) ?_
      refine zz_lvl (lv2 := [(13, .int (nI 0)), (12, .int (nI (cnt (rchB (R r) n b) 0))), (11, .int (nI (cnt (spS n (R r) P) n))), (8, .int 1), (7, .int (nI b)), (0, .ref 52), (1, .ref 57), (2, .int (nI r)), (3, .int (nI n)), (4, .ref 54), (5, .ref 55)]) ⟨rfl, rfl, rfl, rfl, rfl, rfl, rfl, rfl, rfl, rfl, rfl, trivial⟩ ?_
      refine sp_251 hb hn hg _ _ ?_ n 0 (by omega)
      rw [hq]
      exact zz_less (by omega) (by omega) (sp_287 hr hb (fun k hk => (hmk k hk).trans (hfin k hk)) hI)
    · refine zz_iload dL_spreads_230 rfl ?_
      refine zz_istore dL_spreads_232 (by decide) ?_
      refine zz_aload_n dL_spreads_234 rfl ?_
      refine zz_iload_n dL_spreads_235 rfl ?_
      refine zz_iconst (v := 1) dL_spreads_236 (by decide) ?_
      refine zz_callV (ci := 4) (x_spread_v (r := r) hr true hI) dL_spreads_237 zw_m_L_187 wYX4_spread wDX4_spread rfl (by omega) px_x rfl (Nat.le_of_ble_eq_true rfl) (by decide) (by omega) (by omega) rfl ?_ (fun E τ hE => by cases hE.1)
      rintro v1 τ1 ⟨hv1, El1, Lo1, Hi1, BL1, BH1, Od1, Ls1, hI1, rfl⟩
      cases hv1
      have e1 : ∀ k, k < n → ((true && mk k) || anb (fun i => mk i && R r i k) n) = spS n (R r) (spS n (R r) P) k := fun k hk => by
        show ((true && mk k) || anb (fun i => mk i && R r i k) n) = (_ || anb _ n)
        rw [Bool.true_and, hmk k hk, anb_c (f := fun i => mk i && R r i k) (g := fun i => (spS n (R r) P) i && R r i k) (fun i hi => by rw [hmk i hi])]
      rw [cnt_c e1]
      refine zz_istore dL_spreads_240 (by decide) ?_
      refine zz_goto (tgt := 218) dL_spreads_242 (by decide) ?_
      have hgt : cnt P n < cnt (spS n (R r) P) n := Nat.lt_of_not_le (fun q => h227 (nI_le q (by omega)))
      refine zz_less (rc1 := m + 2) (rz1 := 6 * m + 12) (by omega) (by omega) ?_
      refine zz_lvl (lv2 := [(11, .int (nI (cnt (spS n (R r) (spS n (R r) P)) n))), (10, .int (nI (cnt (spS n (R r) P) n))), (8, .int 1), (7, .int (nI b)), (0, .ref 52), (1, .ref 57), (2, .int (nI r)), (3, .int (nI n)), (4, .ref 54), (5, .ref 55)]) ⟨rfl, rfl, rfl, rfl, rfl, rfl, rfl, rfl, rfl, rfl, trivial⟩ ?_
      exact ih (spS n (R r) P) (by omega) (spI_s hs) _ _ _ _ _ _ _ _ hI1 e1
end ZYS
