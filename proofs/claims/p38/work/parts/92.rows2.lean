section ZYR2
variable {El : Nat → Int32} {Lo Hi : Nat → Nat → Int64} {BL BH : Nat → Int64} {Od : Nat → Nat → Int32} {Ls : Nat → Int32} {n : Nat} {R : Nat → Nat → Nat → Bool} {mk : Nat → Bool} {MB : Nat → Nat → Bool} {rho nu : Nat → Int32} {T : zz_St}
set_option maxHeartbeats 1000000 in
set_option maxRecDepth 20000 in
theorem ar_272 {r a q : Nat} (hr : r < 4) (ha : a < n) (hq : q < n) (hg : gr n (MB 54) (R r)) (rc rz : Nat) (K : ∀ (El : Nat → Int32) (Lo Hi : Nat → Nat → Int64) (BL BH : Nat → Int64) (Od : Nat → Nat → Int32) (Ls : Nat → Int32), cI n El Lo Hi BL BH R mk → zz_E mL_areRows none 9 rc rz (trQ n T) 382 [(13, .int 1), (7, .int (nI a)), (0, .ref 52), (1, .ref 57), (2, .int (nI r)), (3, .int (nI n)), (4, .ref 54), (5, .ref 55)] [] (px El Lo Hi BL BH Od Ls (nI n) (pl MB rho nu T))) : ∀ (m i : Nat), i + m = 4 → ∀ (El : Nat → Int32) (Lo Hi : Nat → Nat → Int64) (BL BH : Nat → Int64) (Od : Nat → Nat → Int32) (Ls : Nat → Int32), cI n El Lo Hi BL BH R mk → zz_E mL_areRows none 9 (m + rc) (6 * m + rz) (trQ n T) 272 [(15, .int (nI i)), (14, .int (nI q)), (13, .int 1), (7, .int (nI a)), (0, .ref 52), (1, .ref 57), (2, .int (nI r)), (3, .int (nI n)), (4, .ref 54), (5, .ref 55)] [] (px El Lo Hi BL BH Od Ls (nI n) (pl MB rho nu T)) := by
  intro m
  induction m with
  | zero =>
    intro i hi El Lo Hi BL BH Od Ls hI
    have hk : 4 = i := by omega
    subst hk
    refine zz_iload dL_areRows_272 rfl ?_
    refine zz_iconst (v := 4) dL_areRows_274 (by decide) ?_
    refine zz_icmp_ge (tgt := 382) dL_areRows_275 (by decide) (fun _ => ?_) (fun h => absurd (nI_le (a := 4) (b := 4) (by omega) (by omega)) h)
    refine zz_less (rc1 := rc) (rz1 := rz) (by omega) (by omega) ?_
    refine zz_lvl (lv2 := [(13, .int 1), (7, .int (nI a)), (0, .ref 52), (1, .ref 57), (2, .int (nI r)), (3, .int (nI n)), (4, .ref 54), (5, .ref 55)]) ⟨rfl, rfl, rfl, rfl, rfl, rfl, rfl, rfl, trivial⟩ ?_
    exact K _ _ _ _ _ _ _ hI
  | succ m ih =>
    intro i hi El Lo Hi BL BH Od Ls hI
    have hn := cI_n hI
    have hk : i < 4 := by omega
    refine zz_iload dL_areRows_272 rfl ?_
    refine zz_iconst (v := 4) dL_areRows_274 (by decide) ?_
    refine zz_icmp_ge (tgt := 382) dL_areRows_275 (by decide) (fun h => absurd h (nI_ge (a := i) (b := 4) (by omega) (by omega))) (fun _ => ?_)
    refine zz_iload dL_areRows_278 rfl ?_
    refine zz_if_eq (tgt := 382) dL_areRows_280 (by decide) (fun h => absurd h (by decide)) (fun _ => ?_)
    refine zz_iload dL_areRows_283 rfl ?_
    refine zz_istore dL_areRows_285 (by decide) ?_
    refine zz_lvl (lv2 := [(16, .int (nI q)), (15, .int (nI i)), (14, .int (nI q)), (13, .int 1), (7, .int (nI a)), (0, .ref 52), (1, .ref 57), (2, .int (nI r)), (3, .int (nI n)), (4, .ref 54), (5, .ref 55)]) ⟨rfl, rfl, rfl, rfl, rfl, rfl, rfl, rfl, rfl, rfl, rfl, trivial⟩ ?_
    refine ar_w (h := i) (A := fun k => R r a k) ha hq hn hk (fun k hk9 => hg a k ha hk9) _ _ (fun x hx => ?_)
    refine zz_aload_n dL_areRows_343 rfl ?_
    refine zz_iload_n dL_areRows_344 rfl ?_
    refine zz_iload dL_areRows_345 rfl ?_
    refine zz_iload dL_areRows_347 rfl ?_
    refine zz_iload dL_areRows_349 rfl ?_
    refine zz_callV (ci := 4) (x_beside_v (h := i) hr ha hq (by omega) hI) dL_areRows_351 zw_m_L_51 wYX4_beside wDX4_beside rfl (by omega) px_x rfl (Nat.le_of_ble_eq_true rfl) (by decide) (by omega) (by omega) rfl ?_ (fun E τ hE => by obtain ⟨_, _, hE, _⟩ := hE; cases hE)
    rintro v1 τ1 ⟨v9, hb9, hv1, El1, Lo1, Hi1, BL1, BH1, Od1, Ls1, hI1, rfl⟩
    cases hv1
    have hbr := hx v9 hb9
    refine zz_iload dL_areRows_354 rfl ?_
    refine zz_iload_n dL_areRows_356 rfl ?_
    refine zz_icmp_ge (tgt := 365) dL_areRows_357 (by decide) (fun h357 => ?_) (fun h357 => ?_)
    · refine zz_iconst (v := (-1)) dL_areRows_365 (by decide) ?_
      refine zz_icmp_ne (tgt := 373) dL_areRows_366 (by decide) (fun h => absurd (by first | exact hbr.1 h357 | exact hbr.2 h357) h) (fun _ => ?_)
      refine zz_iconst (v := 1) dL_areRows_369 (by decide) ?_
      refine zz_goto (tgt := 374) dL_areRows_370 (by decide) ?_
      refine zz_istore dL_areRows_374 (by decide) ?_
      refine zz_iinc (v := nI (i + 1)) dL_areRows_376 rfl (nI_1 i) (by decide) ?_
      refine zz_goto (tgt := 272) dL_areRows_379 (by decide) ?_
      refine zz_less (rc1 := m + rc) (rz1 := 6 * m + rz) (by omega) (by omega) ?_
      refine zz_lvl (lv2 := [(15, .int (nI (i + 1))), (14, .int (nI q)), (13, .int 1), (7, .int (nI a)), (0, .ref 52), (1, .ref 57), (2, .int (nI r)), (3, .int (nI n)), (4, .ref 54), (5, .ref 55)]) ⟨rfl, rfl, rfl, rfl, rfl, rfl, rfl, rfl, rfl, rfl, trivial⟩ ?_
      exact ih (i + 1) (by omega) _ _ _ _ _ _ _ hI1
    · refine zz_iload dL_areRows_360 rfl ?_
      refine zz_goto (tgt := 366) dL_areRows_362 (by decide) ?_
      refine zz_icmp_ne (tgt := 373) dL_areRows_366 (by decide) (fun h => absurd (by first | exact hbr.1 h357 | exact hbr.2 h357) h) (fun _ => ?_)
      refine zz_iconst (v := 1) dL_areRows_369 (by decide) ?_
      refine zz_goto (tgt := 374) dL_areRows_370 (by decide) ?_
      refine zz_istore dL_areRows_374 (by decide) ?_
      refine zz_iinc (v := nI (i + 1)) dL_areRows_376 rfl (nI_1 i) (by decide) ?_
      refine zz_goto (tgt := 272) dL_areRows_379 (by decide) ?_
      refine zz_less (rc1 := m + rc) (rz1 := 6 * m + rz) (by omega) (by omega) ?_
      refine zz_lvl (lv2 := [(15, .int (nI (i + 1))), (14, .int (nI q)), (13, .int 1), (7, .int (nI a)), (0, .ref 52), (1, .ref 57), (2, .int (nI r)), (3, .int (nI n)), (4, .ref 54), (5, .ref 55)]) ⟨rfl, rfl, rfl, rfl, rfl, rfl, rfl, rfl, rfl, rfl, trivial⟩ ?_
      exact ih (i + 1) (by omega) _ _ _ _ _ _ _ hI1
set_option maxHeartbeats 1000000 in
set_option maxRecDepth 20000 in
theorem ar_203 {r a y6 : Nat} (hr : r < 4) (ha : a < n) (hy : y6 ≤ 6400) (hI : cI n El Lo Hi BL BH R mk) (hg : gr n (MB 54) (R r)) : zz_E mL_areRows none 9 200 1200 (trQ n T) 203 [(12, .int (nI (cnt (R r a) n))), (11, .int (nI (cnt (R r a) n))), (7, .int (nI a)), (6, .int (nI y6)), (0, .ref 52), (1, .ref 57), (2, .int (nI r)), (3, .int (nI n)), (4, .ref 54), (5, .ref 55)] [] (px El Lo Hi BL BH Od Ls (nI n) (pl MB rho nu T)) := by
  have hn := cI_n hI
  have h1 := cI_1 hI
  refine zz_iload dL_areRows_203 rfl ?_
  refine zz_if_lt (tgt := 258) dL_areRows_205 (by decide) (fun h => absurd h (nI_pos (by omega))) (fun _ => ?_)
  refine zz_iload dL_areRows_208 rfl ?_
  refine zz_iload dL_areRows_210 rfl ?_
  refine zz_icmp_ne (tgt := 258) dL_areRows_212 (by decide) (fun h => absurd rfl h) (fun _ => ?_)
  refine zz_aload_n dL_areRows_215 rfl ?_
  refine zz_iload_n dL_areRows_216 rfl ?_
  refine zz_iload dL_areRows_217 rfl ?_
  refine zz_callV (ci := 4) (x_countOf_v (r := r) hr ha hI) dL_areRows_219 zw_m_L_44 wYX4_countOf wDX4_countOf rfl (by omega) px_x rfl (Nat.le_of_ble_eq_true rfl) (by decide) (by omega) (by omega) rfl ?_ (fun E τ hE => by cases hE.1)
  rintro v1 τ1 ⟨hv1, El1, Lo1, Hi1, BL1, BH1, Od1, Ls1, hI1, rfl⟩
  cases hv1
  refine zz_iload dL_areRows_222 rfl ?_
  refine zz_icmp_ne (tgt := 258) dL_areRows_224 (by decide) (fun h => absurd rfl h) (fun _ => ?_)
  refine zz_aload_n dL_areRows_227 rfl ?_
  refine zz_iload_n dL_areRows_228 rfl ?_
  refine zz_iload_n dL_areRows_229 rfl ?_
  refine zz_aload dL_areRows_230 rfl ?_
  refine zz_callS (c_sees (r := r) (q := 55) hr (by omega) hI1) dL_areRows_232 zw_m_L_87 wYL_sees wDL_sees rfl (Nat.le_of_ble_eq_true rfl) (by decide) (by omega) (by omega) rfl ?_ (fun E τ hE => by obtain ⟨_, _, _, hE, _⟩ := hE; cases hE)
  rintro v2 τ2 ⟨MB2, hg2, hp2, hv2, El2, Lo2, Hi2, BL2, BH2, Od2, Ls2, hI2, rfl⟩
  cases hv2
  have hg54 : gr n (MB2 54) (R r) := by rw [hp2 54 (by omega)]; exact hg
  have hab : ∀ i k, i < n → k < n → MB2 54 (80 * i + k) = MB2 55 (80 * i + k) := fun i k hi hk => by rw [hg54 i k hi hk, hg2 i k hi hk]
  refine zz_aload_n dL_areRows_235 rfl ?_
  refine zz_iload_n dL_areRows_236 rfl ?_
  refine zz_callV (ci := 4) (x_count_v (r := r) hr hI2) dL_areRows_237 zw_m_L_99 wYX4_count wDX4_count rfl (by omega) px_x rfl (Nat.le_of_ble_eq_true rfl) (by decide) (by omega) (by omega) rfl ?_ (fun E τ hE => by cases hE.1)
  rintro v3 τ3 ⟨hv3, El3, Lo3, Hi3, BL3, BH3, Od3, Ls3, hI3, rfl⟩
  cases hv3
  refine zz_icmp_ne (tgt := 258) dL_areRows_240 (by decide) (fun h => absurd rfl h) (fun _ => ?_)
  refine zz_aload dL_areRows_243 rfl ?_
  refine zz_aload dL_areRows_245 rfl ?_
  refine zz_iload_n dL_areRows_247 rfl ?_
  refine zz_callS1 (k_isLike (q := 54) (w := 55) (by omega) (by omega) hn hab) dL_areRows_248 zw_m_L_142 wYL_isLike wDL_isLike rfl (Nat.le_of_ble_eq_true rfl) (by decide) rfl ?_
  refine zz_if_eq (tgt := 258) dL_areRows_251 (by decide) (fun h => absurd h (by decide)) (fun _ => ?_)
  refine zz_iconst (v := 1) dL_areRows_254 (by decide) ?_
  refine zz_goto (tgt := 259) dL_areRows_255 (by decide) ?_
  refine zz_istore dL_areRows_259 (by decide) ?_
  refine zz_aload_n dL_areRows_261 rfl ?_
  refine zz_callS (c_next) dL_areRows_262 zw_m_L_8 wYL_next wDL_next rfl (Nat.le_of_ble_eq_true rfl) (by decide) (by omega) (by omega) rfl ?_ (fun E τ hE => by obtain ⟨_, _, _, hE, _⟩ := hE; cases hE)
  rintro v4 τ4 ⟨m4, rho4, hm4, hv4, rfl⟩
  cases hv4
  refine zz_iload_n dL_areRows_265 rfl ?_
  refine zz_irem dL_areRows_266 (nI_ne0 (by omega) (by omega)) ?_
  refine zz_tope (y := nI (m4 % n)) (pk_rem (by omega) (by omega) (by omega)) ?_
  obtain ⟨b, hb, eb⟩ : ∃ b, b < n ∧ m4 % n = b := ⟨_, Nat.mod_lt _ (by omega), rfl⟩
  rw [eb]
  refine zz_istore dL_areRows_267 (by decide) ?_
  refine zz_iconst (v := 0) dL_areRows_269 (by decide) ?_
  refine zz_istore dL_areRows_270 (by decide) ?_
  refine zz_less (rc1 := 4 + 4) (rz1 := 6 * 4 + 24) (by omega) (by omega) ?_
  refine zz_lvl (lv2 := [(15, .int (nI 0)), (14, .int (nI b)), (13, .int 1), (7, .int (nI a)), (0, .ref 52), (1, .ref 57), (2, .int (nI r)), (3, .int (nI n)), (4, .ref 54), (5, .ref 55)]) ⟨rfl, rfl, rfl, rfl, rfl, rfl, rfl, rfl, rfl, rfl, trivial⟩ ?_
  exact ar_272 hr ha hb hg54 4 24 (fun _ _ _ _ _ _ _ hI9 => ar_382 hr ha hI9 hg54) 4 0 (by omega) _ _ _ _ _ _ _ hI3
set_option maxHeartbeats 1000000 in
set_option maxRecDepth 20000 in
theorem ar_167 {r a y6 : Nat} (ha : a < n) (hn : n ≤ 80) (hg : gr n (MB 54) (R r)) (rc rz : Nat) (K : zz_E mL_areRows none 9 rc rz (trQ n T) 203 [(12, .int (nI (cnt (R r a) n))), (11, .int (nI (cnt (R r a) n))), (7, .int (nI a)), (6, .int (nI y6)), (0, .ref 52), (1, .ref 57), (2, .int (nI r)), (3, .int (nI n)), (4, .ref 54), (5, .ref 55)] [] (px El Lo Hi BL BH Od Ls (nI n) (pl MB rho nu T))) : ∀ (m i : Nat), i + m = n → zz_E mL_areRows none 9 rc rz (trQ n T) 167 [(13, .int (nI i)), (12, .int (nI (cnt (R r a) i))), (11, .int (nI (cnt (R r a) n))), (7, .int (nI a)), (6, .int (nI y6)), (0, .ref 52), (1, .ref 57), (2, .int (nI r)), (3, .int (nI n)), (4, .ref 54), (5, .ref 55)] [] (px El Lo Hi BL BH Od Ls (nI n) (pl MB rho nu T)) := by
  intro m
  induction m with
  | zero =>
    intro i hi
    have hk : n = i := by omega
    subst hk
    refine zz_iload dL_areRows_167 rfl ?_
    refine zz_iload_n dL_areRows_169 rfl ?_
    refine zz_icmp_ge (tgt := 203) dL_areRows_170 (by decide) (fun _ => ?_) (fun h => absurd (nI_le (Nat.le_refl _) (by omega)) h)
    refine zz_lvl (lv2 := [(12, .int (nI (cnt (R r a) n))), (11, .int (nI (cnt (R r a) n))), (7, .int (nI a)), (6, .int (nI y6)), (0, .ref 52), (1, .ref 57), (2, .int (nI r)), (3, .int (nI n)), (4, .ref 54), (5, .ref 55)]) ⟨rfl, rfl, rfl, rfl, rfl, rfl, rfl, rfl, rfl, rfl, trivial⟩ ?_
    exact K
  | succ m ih =>
    intro i hi
    have hk : i < n := by omega
    refine zz_iload dL_areRows_167 rfl ?_
    refine zz_iload_n dL_areRows_169 rfl ?_
    refine zz_icmp_ge (tgt := 203) dL_areRows_170 (by decide) (fun h => absurd h (nI_ge (by omega) (by omega))) (fun _ => ?_)
    refine zz_iload dL_areRows_173 rfl ?_
    refine zz_aload dL_areRows_175 rfl ?_
    refine zz_bipush (v := 80) dL_areRows_177 (by decide) ?_
    refine zz_iload dL_areRows_179 rfl ?_
    refine zz_imul dL_areRows_181 ?_
    refine zz_iload dL_areRows_182 rfl ?_
    refine zz_iadd dL_areRows_184 ?_
    refine zz_tope (y := nI (80 * a + i)) (by simp only [i80, i81, pk_mul, nI_add, nI_1]) ?_
    refine zl_qb dL_areRows_185 (by omega) (by omega) ?_
    rw [hg a i ha hk]
    refine zz_if_eq (tgt := 193) dL_areRows_186 (by decide) (fun h186 => ?_) (fun h186 => ?_)
    · refine zz_iconst (v := 0) dL_areRows_193 (by decide) ?_
      refine zz_iadd dL_areRows_194 ?_
      refine zz_tope (y := nI (cnt (R r a) (i + 1))) (by first | (rw [cnt_st (zB_n.mp h186), nI_1]) | (rw [cnt_sf (zB_0.mp h186), nI_a0])) ?_
      refine zz_istore dL_areRows_195 (by decide) ?_
      refine zz_iinc (v := nI (i + 1)) dL_areRows_197 rfl (nI_1 i) (by decide) ?_
      refine zz_goto (tgt := 167) dL_areRows_200 (by decide) ?_
      refine zz_lvl (lv2 := [(13, .int (nI (i + 1))), (12, .int (nI (cnt (R r a) (i + 1)))), (11, .int (nI (cnt (R r a) n))), (7, .int (nI a)), (6, .int (nI y6)), (0, .ref 52), (1, .ref 57), (2, .int (nI r)), (3, .int (nI n)), (4, .ref 54), (5, .ref 55)]) ⟨rfl, rfl, rfl, rfl, rfl, rfl, rfl, rfl, rfl, rfl, rfl, trivial⟩ ?_
      exact ih (i + 1) (by omega)
    · refine zz_iconst (v := 1) dL_areRows_189 (by decide) ?_
      refine zz_goto (tgt := 194) dL_areRows_190 (by decide) ?_
      refine zz_iadd dL_areRows_194 ?_
      refine zz_tope (y := nI (cnt (R r a) (i + 1))) (by first | (rw [cnt_st (zB_n.mp h186), nI_1]) | (rw [cnt_sf (zB_0.mp h186), nI_a0])) ?_
      refine zz_istore dL_areRows_195 (by decide) ?_
      refine zz_iinc (v := nI (i + 1)) dL_areRows_197 rfl (nI_1 i) (by decide) ?_
      refine zz_goto (tgt := 167) dL_areRows_200 (by decide) ?_
      refine zz_lvl (lv2 := [(13, .int (nI (i + 1))), (12, .int (nI (cnt (R r a) (i + 1)))), (11, .int (nI (cnt (R r a) n))), (7, .int (nI a)), (6, .int (nI y6)), (0, .ref 52), (1, .ref 57), (2, .int (nI r)), (3, .int (nI n)), (4, .ref 54), (5, .ref 55)]) ⟨rfl, rfl, rfl, rfl, rfl, rfl, rfl, rfl, rfl, rfl, rfl, trivial⟩ ?_
      exact ih (i + 1) (by omega)
set_option maxHeartbeats 1000000 in
set_option maxRecDepth 20000 in
theorem ar_99 {r a y6 : Nat} (ha : a < n) (hn : n ≤ 80) {A : Nat → Nat → Bool} {X : Nat → Bool} {f e w : Nat} (hfe : f ≤ e) (hen : e ≤ n) (hw : w < 3) (hX : ∀ k, f ≤ k → k < e → X k = if w = 2 then !(A a k) else decide (w = 0)) {z : Int32} (rc rz : Nat) (K : ∀ MB : Nat → Nat → Bool, (∀ x y, x < n → y < n → MB 54 (80 * x + y) = if x = a ∧ f ≤ y ∧ y < e then X y else A x y) → zz_E mL_areRows none 9 rc rz (trQ n T) 161 [(11, .int z), (7, .int (nI a)), (6, .int (nI y6)), (0, .ref 52), (1, .ref 57), (2, .int (nI r)), (3, .int (nI n)), (4, .ref 54), (5, .ref 55)] [] (px El Lo Hi BL BH Od Ls (nI n) (pl MB rho nu T))) : ∀ (m i : Nat), i + m = e → f ≤ i → ∀ MB : Nat → Nat → Bool, (∀ x y, x < n → y < n → MB 54 (80 * x + y) = if x = a ∧ f ≤ y ∧ y < i then X y else A x y) → zz_E mL_areRows none 9 rc rz (trQ n T) 99 [(12, .int (nI i)), (11, .int z), (10, .int (nI w)), (9, .int (nI e)), (8, .int (nI f)), (7, .int (nI a)), (6, .int (nI y6)), (0, .ref 52), (1, .ref 57), (2, .int (nI r)), (3, .int (nI n)), (4, .ref 54), (5, .ref 55)] [] (px El Lo Hi BL BH Od Ls (nI n) (pl MB rho nu T)) := by
  intro m
  induction m with
  | zero =>
    intro i hi hfi MB hg
    have hk : e = i := by omega
    subst hk
    refine zz_iload dL_areRows_99 rfl ?_
    refine zz_iload dL_areRows_101 rfl ?_
    refine zz_icmp_ge (tgt := 161) dL_areRows_103 (by decide) (fun _ => ?_) (fun h => absurd (nI_le (Nat.le_refl _) (by omega)) h)
    refine zz_lvl (lv2 := [(11, .int z), (7, .int (nI a)), (6, .int (nI y6)), (0, .ref 52), (1, .ref 57), (2, .int (nI r)), (3, .int (nI n)), (4, .ref 54), (5, .ref 55)]) ⟨rfl, rfl, rfl, rfl, rfl, rfl, rfl, rfl, rfl, trivial⟩ ?_
    exact K MB hg
  | succ m ih =>
    intro i hi hfi MB hg
    have hie : i < e := by omega
    have hk : i < n := by omega
    have e1 : MB 54 (80 * a + i) = A a i := by
      rw [hg a i ha hk, if_neg (by omega)]
    refine zz_iload dL_areRows_99 rfl ?_
    refine zz_iload dL_areRows_101 rfl ?_
    refine zz_icmp_ge (tgt := 161) dL_areRows_103 (by decide) (fun h => absurd h (nI_ge (by omega) (by omega))) (fun _ => ?_)
    refine zz_aload dL_areRows_106 rfl ?_
    refine zz_bipush (v := 80) dL_areRows_108 (by decide) ?_
    refine zz_iload dL_areRows_110 rfl ?_
    refine zz_imul dL_areRows_112 ?_
    refine zz_iload dL_areRows_113 rfl ?_
    refine zz_iadd dL_areRows_115 ?_
    refine zz_tope (y := nI (80 * a + i)) (by simp only [i80, i81, pk_mul, nI_add, nI_1]) ?_
    refine zz_iload dL_areRows_116 rfl ?_
    refine zz_iconst (v := 2) dL_areRows_118 (by decide) ?_
    refine zz_icmp_ne (tgt := 144) dL_areRows_119 (by decide) (fun h119 => ?_) (fun h119 => ?_)
    · refine zz_iload dL_areRows_144 rfl ?_
      refine zz_if_ne (tgt := 153) dL_areRows_146 (by decide) (fun h146 => ?_) (fun h146 => ?_)
      · refine zz_iconst (v := 0) dL_areRows_153 (by decide) ?_
        refine zz_topz (b := X i) (by
          rw [hX i hfi hie]
          first | (rw [if_neg (fun q => h119 (by rw [q]; rfl))]; first | (rw [decide_eq_true ((nI_eq (a := w) (b := 0) (by omega) (by omega)).mp h146)]; rfl) | (rw [decide_eq_false (fun q => h146 (by rw [q]; rfl))]; rfl)) | (rw [if_pos ((nI_eq (a := w) (b := 2) (by omega) (by omega)).mp h119)]; first | (rw [zB_0.mp h133]; rfl) | (rw [zB_n.mp h133]; rfl))) ?_
        refine zs_qb dL_areRows_154 (by omega) (by omega) ?_
        refine zz_iinc (v := nI (i + 1)) dL_areRows_155 rfl (nI_1 i) (by decide) ?_
        refine zz_goto (tgt := 99) dL_areRows_158 (by decide) ?_
        refine zz_lvl (lv2 := [(12, .int (nI (i + 1))), (11, .int z), (10, .int (nI w)), (9, .int (nI e)), (8, .int (nI f)), (7, .int (nI a)), (6, .int (nI y6)), (0, .ref 52), (1, .ref 57), (2, .int (nI r)), (3, .int (nI n)), (4, .ref 54), (5, .ref 55)]) ⟨rfl, rfl, rfl, rfl, rfl, rfl, rfl, rfl, rfl, rfl, rfl, rfl, rfl, trivial⟩ ?_
        refine ih (i + 1) (by omega) (by omega) _ (fun i9 k9 q1 q2 => ?_)
        rw [up_at]
        by_cases e9 : i9 = a ∧ k9 = i
        · obtain ⟨rfl, rfl⟩ := e9
          rw [up_at, if_pos (by omega)]
        · rw [up_ne _ _ (fun q => e9 (gx (by omega) (by omega) q)), hg i9 k9 q1 q2]
          by_cases e8 : i9 = a ∧ f ≤ k9 ∧ k9 < i
          · rw [if_pos e8, if_pos (by omega)]
          · rw [if_neg e8, if_neg (by omega)]
      · refine zz_iconst (v := 1) dL_areRows_149 (by decide) ?_
        refine zz_goto (tgt := 154) dL_areRows_150 (by decide) ?_
        refine zz_topz (b := X i) (by
          rw [hX i hfi hie]
          first | (rw [if_neg (fun q => h119 (by rw [q]; rfl))]; first | (rw [decide_eq_true ((nI_eq (a := w) (b := 0) (by omega) (by omega)).mp h146)]; rfl) | (rw [decide_eq_false (fun q => h146 (by rw [q]; rfl))]; rfl)) | (rw [if_pos ((nI_eq (a := w) (b := 2) (by omega) (by omega)).mp h119)]; first | (rw [zB_0.mp h133]; rfl) | (rw [zB_n.mp h133]; rfl))) ?_
        refine zs_qb dL_areRows_154 (by omega) (by omega) ?_
        refine zz_iinc (v := nI (i + 1)) dL_areRows_155 rfl (nI_1 i) (by decide) ?_
        refine zz_goto (tgt := 99) dL_areRows_158 (by decide) ?_
        refine zz_lvl (lv2 := [(12, .int (nI (i + 1))), (11, .int z), (10, .int (nI w)), (9, .int (nI e)), (8, .int (nI f)), (7, .int (nI a)), (6, .int (nI y6)), (0, .ref 52), (1, .ref 57), (2, .int (nI r)), (3, .int (nI n)), (4, .ref 54), (5, .ref 55)]) ⟨rfl, rfl, rfl, rfl, rfl, rfl, rfl, rfl, rfl, rfl, rfl, rfl, rfl, trivial⟩ ?_
        refine ih (i + 1) (by omega) (by omega) _ (fun i9 k9 q1 q2 => ?_)
        rw [up_at]
        by_cases e9 : i9 = a ∧ k9 = i
        · obtain ⟨rfl, rfl⟩ := e9
          rw [up_at, if_pos (by omega)]
        · rw [up_ne _ _ (fun q => e9 (gx (by omega) (by omega) q)), hg i9 k9 q1 q2]
          by_cases e8 : i9 = a ∧ f ≤ k9 ∧ k9 < i
          · rw [if_pos e8, if_pos (by omega)]
          · rw [if_neg e8, if_neg (by omega)]
    · refine zz_aload dL_areRows_122 rfl ?_
      refine zz_bipush (v := 80) dL_areRows_124 (by decide) ?_
      refine zz_iload dL_areRows_126 rfl ?_
      refine zz_imul dL_areRows_128 ?_
      refine zz_iload dL_areRows_129 rfl ?_
      refine zz_iadd dL_areRows_131 ?_
      refine zz_tope (y := nI (80 * a + i)) (by simp only [i80, i81, pk_mul, nI_add, nI_1]) ?_
      refine zl_qb dL_areRows_132 (by omega) (by omega) ?_
      rw [e1]
      refine zz_if_ne (tgt := 140) dL_areRows_133 (by decide) (fun h133 => ?_) (fun h133 => ?_)
      · refine zz_iconst (v := 0) dL_areRows_140 (by decide) ?_
        refine zz_goto (tgt := 154) dL_areRows_141 (by decide) ?_
        refine zz_topz (b := X i) (by
          rw [hX i hfi hie]
          first | (rw [if_neg (fun q => h119 (by rw [q]; rfl))]; first | (rw [decide_eq_true ((nI_eq (a := w) (b := 0) (by omega) (by omega)).mp h146)]; rfl) | (rw [decide_eq_false (fun q => h146 (by rw [q]; rfl))]; rfl)) | (rw [if_pos ((nI_eq (a := w) (b := 2) (by omega) (by omega)).mp h119)]; first | (rw [zB_0.mp h133]; rfl) | (rw [zB_n.mp h133]; rfl))) ?_
        refine zs_qb dL_areRows_154 (by omega) (by omega) ?_
        refine zz_iinc (v := nI (i + 1)) dL_areRows_155 rfl (nI_1 i) (by decide) ?_
        refine zz_goto (tgt := 99) dL_areRows_158 (by decide) ?_
        refine zz_lvl (lv2 := [(12, .int (nI (i + 1))), (11, .int z), (10, .int (nI w)), (9, .int (nI e)), (8, .int (nI f)), (7, .int (nI a)), (6, .int (nI y6)), (0, .ref 52), (1, .ref 57), (2, .int (nI r)), (3, .int (nI n)), (4, .ref 54), (5, .ref 55)]) ⟨rfl, rfl, rfl, rfl, rfl, rfl, rfl, rfl, rfl, rfl, rfl, rfl, rfl, trivial⟩ ?_
        refine ih (i + 1) (by omega) (by omega) _ (fun i9 k9 q1 q2 => ?_)
        rw [up_at]
        by_cases e9 : i9 = a ∧ k9 = i
        · obtain ⟨rfl, rfl⟩ := e9
          rw [up_at, if_pos (by omega)]
        · rw [up_ne _ _ (fun q => e9 (gx (by omega) (by omega) q)), hg i9 k9 q1 q2]
          by_cases e8 : i9 = a ∧ f ≤ k9 ∧ k9 < i
          · rw [if_pos e8, if_pos (by omega)]
          · rw [if_neg e8, if_neg (by omega)]
      · refine zz_iconst (v := 1) dL_areRows_136 (by decide) ?_
        refine zz_goto (tgt := 154) dL_areRows_137 (by decide) ?_
        refine zz_topz (b := X i) (by
          rw [hX i hfi hie]
          first | (rw [if_neg (fun q => h119 (by rw [q]; rfl))]; first | (rw [decide_eq_true ((nI_eq (a := w) (b := 0) (by omega) (by omega)).mp h146)]; rfl) | (rw [decide_eq_false (fun q => h146 (by rw [q]; rfl))]; rfl)) | (rw [if_pos ((nI_eq (a := w) (b := 2) (by omega) (by omega)).mp h119)]; first | (rw [zB_0.mp h133]; rfl) | (rw [zB_n.mp h133]; rfl))) ?_
        refine zs_qb dL_areRows_154 (by omega) (by omega) ?_
        refine zz_iinc (v := nI (i + 1)) dL_areRows_155 rfl (nI_1 i) (by decide) ?_
        refine zz_goto (tgt := 99) dL_areRows_158 (by decide) ?_
        refine zz_lvl (lv2 := [(12, .int (nI (i + 1))), (11, .int z), (10, .int (nI w)), (9, .int (nI e)), (8, .int (nI f)), (7, .int (nI a)), (6, .int (nI y6)), (0, .ref 52), (1, .ref 57), (2, .int (nI r)), (3, .int (nI n)), (4, .ref 54), (5, .ref 55)]) ⟨rfl, rfl, rfl, rfl, rfl, rfl, rfl, rfl, rfl, rfl, rfl, rfl, rfl, trivial⟩ ?_
        refine ih (i + 1) (by omega) (by omega) _ (fun i9 k9 q1 q2 => ?_)
        rw [up_at]
        by_cases e9 : i9 = a ∧ k9 = i
        · obtain ⟨rfl, rfl⟩ := e9
          rw [up_at, if_pos (by omega)]
        · rw [up_ne _ _ (fun q => e9 (gx (by omega) (by omega) q)), hg i9 k9 q1 q2]
          by_cases e8 : i9 = a ∧ f ≤ k9 ∧ k9 < i
          · rw [if_pos e8, if_pos (by omega)]
          · rw [if_neg e8, if_neg (by omega)]
set_option maxHeartbeats 1000000 in
set_option maxRecDepth 20000 in
theorem ar_93 {r a y6 : Nat} (hr : r < 4) (ha : a < n) (hy : y6 ≤ 6400) {A : Nat → Nat → Bool} {f e w : Nat} (hfe : f ≤ e) (hen : e ≤ n) (hw : w < 3) (hX : ∀ i k, i < n → k < n → R r i k = if i = a ∧ f ≤ k ∧ k < e then (if w = 2 then !(A a k) else decide (w = 0)) else A i k) (hI : cI n El Lo Hi BL BH R mk) (hg : gr n (MB 54) A) : zz_E mL_areRows none 9 200 1200 (trQ n T) 93 [(10, .int (nI w)), (9, .int (nI e)), (8, .int (nI f)), (7, .int (nI a)), (6, .int (nI y6)), (0, .ref 52), (1, .ref 57), (2, .int (nI r)), (3, .int (nI n)), (4, .ref 54), (5, .ref 55)] [.int (nI (cnt (R r a) n))] (px El Lo Hi BL BH Od Ls (nI n) (pl MB rho nu T)) := by
  have hn := cI_n hI
  refine zz_istore dL_areRows_93 (by decide) ?_
  refine zz_iload dL_areRows_95 rfl ?_
  refine zz_istore dL_areRows_97 (by decide) ?_
  refine zz_lvl (lv2 := [(12, .int (nI f)), (11, .int (nI (cnt (R r a) n))), (10, .int (nI w)), (9, .int (nI e)), (8, .int (nI f)), (7, .int (nI a)), (6, .int (nI y6)), (0, .ref 52), (1, .ref 57), (2, .int (nI r)), (3, .int (nI n)), (4, .ref 54), (5, .ref 55)]) ⟨rfl, rfl, rfl, rfl, rfl, rfl, rfl, rfl, rfl, rfl, rfl, rfl, rfl, trivial⟩ ?_
  refine ar_99 ha hn (A := A) (X := R r a) hfe hen hw (fun k k1 k2 => by rw [hX a k ha (by omega), if_pos ⟨rfl, k1, k2⟩]) _ _ (fun MB9 h9 => ?_) (e - f) f (by omega) (Nat.le_refl f) MB (fun i k hi hk => by rw [if_neg (by omega)]; exact hg i k hi hk)
  have hg9 : gr n (MB9 54) (R r) := fun i k hi hk => by
    rw [h9 i k hi hk]
    by_cases e9 : i = a ∧ f ≤ k ∧ k < e
    · rw [if_pos e9, e9.1]
    · rw [if_neg e9, hX i k hi hk, if_neg e9]
  refine zz_iconst (v := 0) dL_areRows_161 (by decide) ?_
  refine zz_istore dL_areRows_162 (by decide) ?_
  refine zz_iconst (v := 0) dL_areRows_164 (by decide) ?_
  refine zz_istore dL_areRows_165 (by decide) ?_
  refine zz_lvl (lv2 := [(13, .int (nI 0)), (12, .int (nI (cnt (R r a) 0))), (11, .int (nI (cnt (R r a) n))), (7, .int (nI a)), (6, .int (nI y6)), (0, .ref 52), (1, .ref 57), (2, .int (nI r)), (3, .int (nI n)), (4, .ref 54), (5, .ref 55)]) ⟨rfl, rfl, rfl, rfl, rfl, rfl, rfl, rfl, rfl, rfl, rfl, trivial⟩ ?_
  refine ar_167 ha hn hg9 _ _ ?_ n 0 (by omega)
  exact ar_203 hr ha hy hI hg9
set_option maxHeartbeats 1000000 in
set_option maxRecDepth 20000 in
theorem c_areRows {r : Nat} (hr : r < 4) (hI : cI n El Lo Hi BL BH R mk) : zz_C mL_areRows 9 400 2400 [.ref 52, .ref 57, .int (nI r), .int (nI n), .ref 54, .ref 55] (px El Lo Hi BL BH Od Ls (nI n) (pl MB rho nu T)) (trQ n T) := by
  have hn := cI_n hI
  have h1 := cI_1 hI
  refine zz_start wPL_areRows rfl rfl (Nat.le_of_ble_eq_true rfl) ?_
  refine zz_aload_n dL_areRows_0 rfl ?_
  refine zz_iload_n dL_areRows_1 rfl ?_
  refine zz_iload_n dL_areRows_2 rfl ?_
  refine zz_aload dL_areRows_3 rfl ?_
  refine zz_callS (c_sees (r := r) (q := 54) hr (by omega) hI) dL_areRows_5 zw_m_L_87 wYL_sees wDL_sees rfl (Nat.le_of_ble_eq_true rfl) (by decide) (by omega) (by omega) rfl ?_ (fun E τ hE => by obtain ⟨_, _, _, hE, _⟩ := hE; cases hE)
  rintro v1 τ1 ⟨MB1, hg1, hp1, hv1, El1, Lo1, Hi1, BL1, BH1, Od1, Ls1, hI1, rfl⟩
  cases hv1
  refine zz_istore dL_areRows_8 (by decide) ?_
  refine zz_aload_n dL_areRows_10 rfl ?_
  refine zz_callS (c_next) dL_areRows_11 zw_m_L_8 wYL_next wDL_next rfl (Nat.le_of_ble_eq_true rfl) (by decide) (by omega) (by omega) rfl ?_ (fun E τ hE => by obtain ⟨_, _, _, hE, _⟩ := hE; cases hE)
  rintro v2 τ2 ⟨m2, rho2, hm2, hv2, rfl⟩
  cases hv2
  refine zz_iload_n dL_areRows_14 rfl ?_
  refine zz_irem dL_areRows_15 (nI_ne0 (by omega) (by omega)) ?_
  refine zz_tope (y := nI (m2 % (n))) (pk_rem (by omega) (by omega) (by omega)) ?_
  obtain ⟨a, ha, ea⟩ : ∃ a, a < n ∧ m2 % (n) = a := ⟨_, Nat.mod_lt _ (by omega), rfl⟩
  rw [ea]
  refine zz_istore dL_areRows_16 (by decide) ?_
  refine zz_aload_n dL_areRows_18 rfl ?_
  refine zz_callS (c_next) dL_areRows_19 zw_m_L_8 wYL_next wDL_next rfl (Nat.le_of_ble_eq_true rfl) (by decide) (by omega) (by omega) rfl ?_ (fun E τ hE => by obtain ⟨_, _, _, hE, _⟩ := hE; cases hE)
  rintro v3 τ3 ⟨m3, rho3, hm3, hv3, rfl⟩
  cases hv3
  refine zz_iload_n dL_areRows_22 rfl ?_
  refine zz_iconst (v := 1) dL_areRows_23 (by decide) ?_
  refine zz_iadd dL_areRows_24 ?_
  refine zz_tope (y := nI (n + 1)) (nI_1 n) ?_
  refine zz_irem dL_areRows_25 (nI_ne0 (by omega) (by omega)) ?_
  refine zz_tope (y := nI (m3 % (n + 1))) (pk_rem (by omega) (by omega) (by omega)) ?_
  obtain ⟨f, hf, ef⟩ : ∃ f, f < n + 1 ∧ m3 % (n + 1) = f := ⟨_, Nat.mod_lt _ (by omega), rfl⟩
  rw [ef]
  refine zz_istore dL_areRows_26 (by decide) ?_
  refine zz_iload dL_areRows_28 rfl ?_
  refine zz_aload_n dL_areRows_30 rfl ?_
  refine zz_callS (c_next) dL_areRows_31 zw_m_L_8 wYL_next wDL_next rfl (Nat.le_of_ble_eq_true rfl) (by decide) (by omega) (by omega) rfl ?_ (fun E τ hE => by obtain ⟨_, _, _, hE, _⟩ := hE; cases hE)
  rintro v4 τ4 ⟨m4, rho4, hm4, hv4, rfl⟩
  cases hv4
  refine zz_iload_n dL_areRows_34 rfl ?_
  refine zz_iload dL_areRows_35 rfl ?_
  refine zz_isub dL_areRows_37 ?_
  refine zz_iconst (v := 1) dL_areRows_38 (by decide) ?_
  refine zz_iadd dL_areRows_39 ?_
  refine zz_tope (y := nI (n - f + 1)) (by rw [pk_sub (by omega), nI_1]) ?_
  refine zz_irem dL_areRows_40 (nI_ne0 (by omega) (by omega)) ?_
  refine zz_tope (y := nI (m4 % (n - f + 1))) (pk_rem (by omega) (by omega) (by omega)) ?_
  obtain ⟨g, hg, eg⟩ : ∃ g, g < n - f + 1 ∧ m4 % (n - f + 1) = g := ⟨_, Nat.mod_lt _ (by omega), rfl⟩
  rw [eg]
  refine zz_iadd dL_areRows_41 ?_
  refine zz_tope (y := nI (f + g)) (nI_add f g) ?_
  refine zz_istore dL_areRows_42 (by decide) ?_
  refine zz_aload_n dL_areRows_44 rfl ?_
  refine zz_callS (c_next) dL_areRows_45 zw_m_L_8 wYL_next wDL_next rfl (Nat.le_of_ble_eq_true rfl) (by decide) (by omega) (by omega) rfl ?_ (fun E τ hE => by obtain ⟨_, _, _, hE, _⟩ := hE; cases hE)
  rintro v5 τ5 ⟨m5, rho5, hm5, hv5, rfl⟩
  cases hv5
  refine zz_iconst (v := 3) dL_areRows_48 (by decide) ?_
  refine zz_irem dL_areRows_49 ((by decide)) ?_
  refine zz_tope (y := nI (m5 % 3)) (pk_rem (d := 3) (by omega) (by omega) (by omega)) ?_
  obtain ⟨w, hw, ew⟩ : ∃ w, w < 3 ∧ m5 % 3 = w := ⟨_, Nat.mod_lt _ (by omega), rfl⟩
  rw [ew]
  refine zz_istore dL_areRows_50 (by decide) ?_
  refine zz_iload dL_areRows_52 rfl ?_
  refine zz_iconst (v := 2) dL_areRows_54 (by decide) ?_
  refine zz_icmp_ne (tgt := 72) dL_areRows_55 (by decide) (fun h55 => ?_) (fun h55 => ?_)
  · refine zz_aload_n dL_areRows_72 rfl ?_
    refine zz_iload_n dL_areRows_73 rfl ?_
    refine zz_iload dL_areRows_74 rfl ?_
    refine zz_iload dL_areRows_76 rfl ?_
    refine zz_iload dL_areRows_78 rfl ?_
    refine zz_iload dL_areRows_80 rfl ?_
    refine zz_if_ne (tgt := 89) dL_areRows_82 (by decide) (fun h82 => ?_) (fun h82 => ?_)
    · refine zz_iconst (v := 0) dL_areRows_89 (by decide) ?_
      refine zz_topz (b := decide (w = 0)) (by first | (rw [decide_eq_true ((nI_eq (a := w) (b := 0) (by omega) (by omega)).mp h82)]; rfl) | (rw [decide_eq_false (fun q => h82 (by rw [q]; rfl))]; rfl)) ?_
      refine zz_callV (ci := 4) (x_setRange_v (r := r) (a := f) (e := f + g) hr ha (by omega) (by omega) (decide (w = 0)) hI1) dL_areRows_90 zw_m_L_47 wYX4_setRange wDX4_setRange rfl (by omega) px_x rfl (Nat.le_of_ble_eq_true rfl) (by decide) (by omega) (by omega) rfl ?_ (fun E τ hE => by cases hE.1)
      rintro v6 τ6 ⟨hv6, El6, Lo6, Hi6, BL6, BH6, Od6, Ls6, hI6, rfl⟩
      cases hv6
      have hg54 := hg1
      refine zz_less (rc1 := 200) (rz1 := 1200) (by omega) (by omega) ?_
      have e2 : ¬ w = 2 := fun q => h55 (by rw [q]; rfl)
      rw [show cnt (ptS (R r a) f (f + g) (decide (w = 0))) n = cnt (va_up R r (va_up (R r) a (ptS (R r a) f (f + g) (decide (w = 0)))) r a) n by rw [up_at, up_at]]
      refine zz_lvl (lv2 := [(10, .int (nI w)), (9, .int (nI (f + g))), (8, .int (nI f)), (7, .int (nI a)), (6, .int (nI (sm (fun j => cnt (R r j) n) n))), (0, .ref 52), (1, .ref 57), (2, .int (nI r)), (3, .int (nI n)), (4, .ref 54), (5, .ref 55)]) ⟨rfl, rfl, rfl, rfl, rfl, rfl, rfl, rfl, rfl, rfl, rfl, trivial⟩ ?_
      refine ar_93 hr ha (y6 := sm (fun j => cnt (R r j) n) n) (pn_6400 hn (R r)) (A := R r) (f := f) (e := f + g) (w := w) (by omega) (by omega) hw (fun i k hi hk => ?_) hI6 hg54
      rw [up_at]
      by_cases e9 : i = a
      · subst e9
        rw [up_at]
        unfold ptS
        by_cases e8 : f ≤ k ∧ k < f + g
        · rw [if_pos e8, if_pos ⟨rfl, e8⟩]
          rw [if_neg e2]
        · rw [if_neg e8, if_neg (fun q => e8 q.2)]
      · rw [up_ne _ _ e9, if_neg (fun q => e9 q.1)]
    · refine zz_iconst (v := 1) dL_areRows_85 (by decide) ?_
      refine zz_goto (tgt := 90) dL_areRows_86 (by decide) ?_
      refine zz_topz (b := decide (w = 0)) (by first | (rw [decide_eq_true ((nI_eq (a := w) (b := 0) (by omega) (by omega)).mp h82)]; rfl) | (rw [decide_eq_false (fun q => h82 (by rw [q]; rfl))]; rfl)) ?_
      refine zz_callV (ci := 4) (x_setRange_v (r := r) (a := f) (e := f + g) hr ha (by omega) (by omega) (decide (w = 0)) hI1) dL_areRows_90 zw_m_L_47 wYX4_setRange wDX4_setRange rfl (by omega) px_x rfl (Nat.le_of_ble_eq_true rfl) (by decide) (by omega) (by omega) rfl ?_ (fun E τ hE => by cases hE.1)
      rintro v6 τ6 ⟨hv6, El6, Lo6, Hi6, BL6, BH6, Od6, Ls6, hI6, rfl⟩
      cases hv6
      have hg54 := hg1
      refine zz_less (rc1 := 200) (rz1 := 1200) (by omega) (by omega) ?_
      have e2 : ¬ w = 2 := fun q => h55 (by rw [q]; rfl)
      rw [show cnt (ptS (R r a) f (f + g) (decide (w = 0))) n = cnt (va_up R r (va_up (R r) a (ptS (R r a) f (f + g) (decide (w = 0)))) r a) n by rw [up_at, up_at]]
      refine zz_lvl (lv2 := [(10, .int (nI w)), (9, .int (nI (f + g))), (8, .int (nI f)), (7, .int (nI a)), (6, .int (nI (sm (fun j => cnt (R r j) n) n))), (0, .ref 52), (1, .ref 57), (2, .int (nI r)), (3, .int (nI n)), (4, .ref 54), (5, .ref 55)]) ⟨rfl, rfl, rfl, rfl, rfl, rfl, rfl, rfl, rfl, rfl, rfl, trivial⟩ ?_
      refine ar_93 hr ha (y6 := sm (fun j => cnt (R r j) n) n) (pn_6400 hn (R r)) (A := R r) (f := f) (e := f + g) (w := w) (by omega) (by omega) hw (fun i k hi hk => ?_) hI6 hg54
      rw [up_at]
      by_cases e9 : i = a
      · subst e9
        rw [up_at]
        unfold ptS
        by_cases e8 : f ≤ k ∧ k < f + g
        · rw [if_pos e8, if_pos ⟨rfl, e8⟩]
          rw [if_neg e2]
        · rw [if_neg e8, if_neg (fun q => e8 q.2)]
      · rw [up_ne _ _ e9, if_neg (fun q => e9 q.1)]
  · refine zz_aload_n dL_areRows_58 rfl ?_
    refine zz_iload_n dL_areRows_59 rfl ?_
    refine zz_iload dL_areRows_60 rfl ?_
    refine zz_iload dL_areRows_62 rfl ?_
    refine zz_iload dL_areRows_64 rfl ?_
    refine zz_callV (ci := 4) (x_flipRange_v (r := r) (a := f) (e := f + g) hr ha (by omega) (by omega) hI1) dL_areRows_66 zw_m_L_169 wYX4_flipRange wDX4_flipRange rfl (by omega) px_x rfl (Nat.le_of_ble_eq_true rfl) (by decide) (by omega) (by omega) rfl ?_ (fun E τ hE => by cases hE.1)
    rintro v6 τ6 ⟨hv6, El6, Lo6, Hi6, BL6, BH6, Od6, Ls6, hI6, rfl⟩
    cases hv6
    refine zz_goto (tgt := 93) dL_areRows_69 (by decide) ?_
    have hg54 := hg1
    refine zz_less (rc1 := 200) (rz1 := 1200) (by omega) (by omega) ?_
    have e2 : w = 2 := (nI_eq (a := w) (b := 2) (by omega) (by omega)).mp h55
    rw [show cnt (flS (R r a) f (f + g)) n = cnt (va_up R r (va_up (R r) a (flS (R r a) f (f + g))) r a) n by rw [up_at, up_at]]
    refine zz_lvl (lv2 := [(10, .int (nI w)), (9, .int (nI (f + g))), (8, .int (nI f)), (7, .int (nI a)), (6, .int (nI (sm (fun j => cnt (R r j) n) n))), (0, .ref 52), (1, .ref 57), (2, .int (nI r)), (3, .int (nI n)), (4, .ref 54), (5, .ref 55)]) ⟨rfl, rfl, rfl, rfl, rfl, rfl, rfl, rfl, rfl, rfl, rfl, trivial⟩ ?_
    refine ar_93 hr ha (y6 := sm (fun j => cnt (R r j) n) n) (pn_6400 hn (R r)) (A := R r) (f := f) (e := f + g) (w := w) (by omega) (by omega) hw (fun i k hi hk => ?_) hI6 hg54
    rw [up_at]
    by_cases e9 : i = a
    · subst e9
      rw [up_at]
      unfold flS
      by_cases e8 : f ≤ k ∧ k < f + g
      · rw [if_pos e8, if_pos ⟨rfl, e8⟩]
        rw [if_pos e2]
      · rw [if_neg e8, if_neg (fun q => e8 q.2)]
    · rw [up_ne _ _ e9, if_neg (fun q => e9 q.1)]
end ZYR2
