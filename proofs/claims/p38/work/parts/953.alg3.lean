section ZYW3
variable {El : Nat → Int32} {Lo Hi : Nat → Nat → Int64} {BL BH : Nat → Int64} {Od : Nat → Nat → Int32} {Ls : Nat → Int32} {n : Nat} {R : Nat → Nat → Nat → Bool} {mk : Nat → Bool} {MB : Nat → Nat → Bool} {rho nu : Nat → Int32} {T : zz_St}
set_option maxHeartbeats 1000000 in
set_option maxRecDepth 20000 in
theorem al_296 {a b : Nat} (ha : a < 3) (hb : b < 3) {y : Nat} (hy : y ≤ 6400) (hI : cI n El Lo Hi BL BH R mk) : zz_E mL_isAlgebra none 9 1400 8400 (trQ n T) 296 [(11, .int (nI y)), (9, .int 1), (7, .int (nI b)), (6, .int (nI a)), (0, .ref 52), (1, .ref 57), (2, .int (nI n)), (3, .ref 54), (4, .ref 55), (5, .ref 56)] [] (px El Lo Hi BL BH Od Ls (nI n) (pl MB rho nu T)) := by
  have hn := cI_n hI
  have h1 := cI_1 hI
  have ha4 : a < 4 := by omega
  have hb4 : b < 4 := by omega
  have ha3 : a ≠ 3 := by omega
  have hb3 : b ≠ 3 := by omega
  refine zz_aload_n dL_isAlgebra_296 rfl ?_
  refine zz_iload dL_isAlgebra_297 rfl ?_
  refine zz_iload_n dL_isAlgebra_299 rfl ?_
  refine zz_aload_n dL_isAlgebra_300 rfl ?_
  refine zz_callS (y_sees (q := 54) ha4 (by omega) rfl hI) dL_isAlgebra_301 zw_m_L_87 wYL_sees wDL_sees rfl (Nat.le_of_ble_eq_true rfl) (by decide) (by omega) (by omega) rfl ?_ (fun E τ hE => by obtain ⟨_, _, _, hE, _⟩ := hE; cases hE)
  rintro v1 τ1 ⟨MB1, hg1, hp1, hv1, El1, Lo1, Hi1, BL1, BH1, Od1, Ls1, hI1, rfl⟩
  cases hv1
  refine zz_istore dL_isAlgebra_304 (by decide) ?_
  refine zz_iload dL_isAlgebra_306 rfl ?_
  refine zz_if_eq (tgt := 345) dL_isAlgebra_308 (by decide) (fun h => absurd h (by decide)) (fun _ => ?_)
  refine zz_iload dL_isAlgebra_311 rfl ?_
  refine zz_if_lt (tgt := 345) dL_isAlgebra_313 (by decide) (fun h => absurd h (nI_pos (by omega))) (fun _ => ?_)
  refine zz_aload_n dL_isAlgebra_316 rfl ?_
  refine zz_iload dL_isAlgebra_317 rfl ?_
  refine zz_callV (ci := 4) (y_turn ha4 rfl hI1) dL_isAlgebra_319 zw_m_L_163 wYX4_turn wDX4_turn rfl (by omega) px_x rfl (Nat.le_of_ble_eq_true rfl) (by decide) (by omega) (by omega) rfl ?_ (fun E τ hE => by cases hE.1)
  rintro v2 τ2 ⟨hv2, El2, Lo2, Hi2, BL2, BH2, Od2, Ls2, hI2, rfl⟩
  cases hv2
  refine zz_iload dL_isAlgebra_322 rfl ?_
  refine zz_icmp_ne (tgt := 345) dL_isAlgebra_324 (by decide) (fun h => absurd (by rw [pn_turn]) h) (fun _ => ?_)
  refine zz_aload_n dL_isAlgebra_327 rfl ?_
  refine zz_iload dL_isAlgebra_328 rfl ?_
  refine zz_iload_n dL_isAlgebra_330 rfl ?_
  refine zz_aload dL_isAlgebra_331 rfl ?_
  refine zz_callS (y_sees (q := 55) ha4 (by omega) (up_at _ _ _) hI2) dL_isAlgebra_333 zw_m_L_87 wYL_sees wDL_sees rfl (Nat.le_of_ble_eq_true rfl) (by decide) (by omega) (by omega) rfl ?_ (fun E τ hE => by obtain ⟨_, _, _, hE, _⟩ := hE; cases hE)
  rintro v3 τ3 ⟨MB3, hg3, hp3, hv3, El3, Lo3, Hi3, BL3, BH3, Od3, Ls3, hI3, rfl⟩
  cases hv3
  have hx3 : gr n (MB3 54) (R a) := by rw [hp3 54 (by omega)]; exact hg1
  refine zz_iload dL_isAlgebra_336 rfl ?_
  refine zz_icmp_ne (tgt := 345) dL_isAlgebra_338 (by decide) (fun h => absurd (by rw [pn_turn]) h) (fun _ => ?_)
  refine zz_iconst (v := 1) dL_isAlgebra_341 (by decide) ?_
  refine zz_goto (tgt := 346) dL_isAlgebra_342 (by decide) ?_
  refine zz_istore dL_isAlgebra_346 (by decide) ?_
  refine zz_iconst (v := 0) dL_isAlgebra_348 (by decide) ?_
  refine zz_istore dL_isAlgebra_349 (by decide) ?_
  refine zz_less (rc1 := 1000) (rz1 := 6000) (by omega) (by omega) ?_
  refine zz_lvl (lv2 := [(13, .int (nI 0)), (12, .int (nI (pn n (R a)))), (9, .int 1), (7, .int (nI b)), (6, .int (nI a)), (0, .ref 52), (1, .ref 57), (2, .int (nI n)), (3, .ref 54), (4, .ref 55), (5, .ref 56)]) ⟨rfl, rfl, rfl, rfl, rfl, rfl, rfl, rfl, rfl, rfl, rfl, trivial⟩ ?_
  exact al_351 hn hx3 hg3 _ _ (al_419 ha hb hI3 (X := R a) (up_at _ _ _) hx3) n 0 (by omega)
set_option maxHeartbeats 1000000 in
set_option maxRecDepth 20000 in
theorem al_232 {a b y : Nat} (hn : n ≤ 80) {X Y Z : Nat → Nat → Bool} (hx : gr n (MB 54) X) (hy : gr n (MB 55) Y) (hz : gr n (MB 56) Z) (he : ∀ i k, i < n → k < n → X i k = (Y i k || Z i k)) (rc rz : Nat) (K : zz_E mL_isAlgebra none 9 rc rz (trQ n T) 296 [(11, .int (nI y)), (9, .int 1), (7, .int (nI b)), (6, .int (nI a)), (0, .ref 52), (1, .ref 57), (2, .int (nI n)), (3, .ref 54), (4, .ref 55), (5, .ref 56)] [] (px El Lo Hi BL BH Od Ls (nI n) (pl MB rho nu T))) : ∀ (m i : Nat), i + m = 80 * n → zz_E mL_isAlgebra none 9 rc rz (trQ n T) 232 [(12, .int (nI i)), (11, .int (nI y)), (9, .int 1), (7, .int (nI b)), (6, .int (nI a)), (0, .ref 52), (1, .ref 57), (2, .int (nI n)), (3, .ref 54), (4, .ref 55), (5, .ref 56)] [] (px El Lo Hi BL BH Od Ls (nI n) (pl MB rho nu T)) := by
  intro m
  induction m with
  | zero =>
    intro i hi
    have hk : 80 * n = i := by omega
    subst hk
    refine zz_iload dL_isAlgebra_232 rfl ?_
    refine zz_bipush (v := 80) dL_isAlgebra_234 (by decide) ?_
    refine zz_iload_n dL_isAlgebra_236 rfl ?_
    refine zz_imul dL_isAlgebra_237 ?_
    refine zz_tope (y := nI (80 * n)) (by simp only [i80, i81, pk_mul, nI_add, nI_1]) ?_
    refine zz_icmp_ge (tgt := 296) dL_isAlgebra_238 (by decide) (fun _ => ?_) (fun h => absurd (nI_le (Nat.le_refl _) (by omega)) h)
    refine zz_lvl (lv2 := [(11, .int (nI y)), (9, .int 1), (7, .int (nI b)), (6, .int (nI a)), (0, .ref 52), (1, .ref 57), (2, .int (nI n)), (3, .ref 54), (4, .ref 55), (5, .ref 56)]) ⟨rfl, rfl, rfl, rfl, rfl, rfl, rfl, rfl, rfl, rfl, trivial⟩ ?_
    exact K
  | succ m ih =>
    intro i hi
    have hk : i < 80 * n := by omega
    refine zz_iload dL_isAlgebra_232 rfl ?_
    refine zz_bipush (v := 80) dL_isAlgebra_234 (by decide) ?_
    refine zz_iload_n dL_isAlgebra_236 rfl ?_
    refine zz_imul dL_isAlgebra_237 ?_
    refine zz_tope (y := nI (80 * n)) (by simp only [i80, i81, pk_mul, nI_add, nI_1]) ?_
    refine zz_icmp_ge (tgt := 296) dL_isAlgebra_238 (by decide) (fun h => absurd h (nI_ge (by omega) (by omega))) (fun _ => ?_)
    refine zz_iload dL_isAlgebra_241 rfl ?_
    refine zz_if_eq (tgt := 296) dL_isAlgebra_243 (by decide) (fun h => absurd h (by decide)) (fun _ => ?_)
    refine zz_iload dL_isAlgebra_246 rfl ?_
    refine zz_bipush (v := 80) dL_isAlgebra_248 (by decide) ?_
    refine zz_irem dL_isAlgebra_250 ((by decide)) ?_
    refine zz_tope (y := nI (i % 80)) (pk_rem (d := 80) (by omega) (by omega) (by omega)) ?_
    refine zz_iload_n dL_isAlgebra_251 rfl ?_
    refine zz_icmp_ge (tgt := 283) dL_isAlgebra_252 (by decide) (fun h252 => ?_) (fun h252 => ?_)
    · refine zz_iconst (v := 1) dL_isAlgebra_283 (by decide) ?_
      refine zz_goto (tgt := 288) dL_isAlgebra_284 (by decide) ?_
      refine zz_istore dL_isAlgebra_288 (by decide) ?_
      refine zz_iinc (v := nI (i + 1)) dL_isAlgebra_290 rfl (nI_1 i) (by decide) ?_
      refine zz_goto (tgt := 232) dL_isAlgebra_293 (by decide) ?_
      refine zz_lvl (lv2 := [(12, .int (nI (i + 1))), (11, .int (nI y)), (9, .int 1), (7, .int (nI b)), (6, .int (nI a)), (0, .ref 52), (1, .ref 57), (2, .int (nI n)), (3, .ref 54), (4, .ref 55), (5, .ref 56)]) ⟨rfl, rfl, rfl, rfl, rfl, rfl, rfl, rfl, rfl, rfl, rfl, trivial⟩ ?_
      exact ih (i + 1) (by omega)
    · have h2 : i % 80 < n := Nat.lt_of_not_le (fun q => h252 (nI_le q (by omega)))
      have ex := gr_flat hx hk h2
      have ey := gr_flat hy hk h2
      have ez := gr_flat hz hk h2
      refine zz_aload_n dL_isAlgebra_255 rfl ?_
      refine zz_iload dL_isAlgebra_256 rfl ?_
      refine zl_qb dL_isAlgebra_258 (by omega) (by omega) ?_
      refine zz_aload dL_isAlgebra_259 rfl ?_
      refine zz_iload dL_isAlgebra_261 rfl ?_
      refine zl_qb dL_isAlgebra_263 (by omega) (by omega) ?_
      refine zz_if_ne (tgt := 275) dL_isAlgebra_264 (by decide) (fun h264 => ?_) (fun h264 => ?_)
      · refine zz_iconst (v := 1) dL_isAlgebra_275 (by decide) ?_
        refine zz_goto (tgt := 280) dL_isAlgebra_276 (by decide) ?_
        refine zz_topz (b := MB 54 i) (by
          rw [ex, he _ _ (by omega) h2, ← ey, ← ez]
          first | (rw [zB_n.mp h264]; rfl) | (rw [zB_0.mp h264, zB_n.mp h272]; rfl) | (rw [zB_0.mp h264, zB_0.mp h272]; rfl)) ?_
        refine zz_icmp_ne (tgt := 287) dL_isAlgebra_280 (by decide) (fun h => absurd rfl h) (fun _ => ?_)
        refine zz_iconst (v := 1) dL_isAlgebra_283 (by decide) ?_
        refine zz_goto (tgt := 288) dL_isAlgebra_284 (by decide) ?_
        refine zz_istore dL_isAlgebra_288 (by decide) ?_
        refine zz_iinc (v := nI (i + 1)) dL_isAlgebra_290 rfl (nI_1 i) (by decide) ?_
        refine zz_goto (tgt := 232) dL_isAlgebra_293 (by decide) ?_
        refine zz_lvl (lv2 := [(12, .int (nI (i + 1))), (11, .int (nI y)), (9, .int 1), (7, .int (nI b)), (6, .int (nI a)), (0, .ref 52), (1, .ref 57), (2, .int (nI n)), (3, .ref 54), (4, .ref 55), (5, .ref 56)]) ⟨rfl, rfl, rfl, rfl, rfl, rfl, rfl, rfl, rfl, rfl, rfl, trivial⟩ ?_
        exact ih (i + 1) (by omega)
      · refine zz_aload dL_isAlgebra_267 rfl ?_
        refine zz_iload dL_isAlgebra_269 rfl ?_
        refine zl_qb dL_isAlgebra_271 (by omega) (by omega) ?_
        refine zz_if_eq (tgt := 279) dL_isAlgebra_272 (by decide) (fun h272 => ?_) (fun h272 => ?_)
        · refine zz_iconst (v := 0) dL_isAlgebra_279 (by decide) ?_
          refine zz_topz (b := MB 54 i) (by
            rw [ex, he _ _ (by omega) h2, ← ey, ← ez]
            first | (rw [zB_n.mp h264]; rfl) | (rw [zB_0.mp h264, zB_n.mp h272]; rfl) | (rw [zB_0.mp h264, zB_0.mp h272]; rfl)) ?_
          refine zz_icmp_ne (tgt := 287) dL_isAlgebra_280 (by decide) (fun h => absurd rfl h) (fun _ => ?_)
          refine zz_iconst (v := 1) dL_isAlgebra_283 (by decide) ?_
          refine zz_goto (tgt := 288) dL_isAlgebra_284 (by decide) ?_
          refine zz_istore dL_isAlgebra_288 (by decide) ?_
          refine zz_iinc (v := nI (i + 1)) dL_isAlgebra_290 rfl (nI_1 i) (by decide) ?_
          refine zz_goto (tgt := 232) dL_isAlgebra_293 (by decide) ?_
          refine zz_lvl (lv2 := [(12, .int (nI (i + 1))), (11, .int (nI y)), (9, .int 1), (7, .int (nI b)), (6, .int (nI a)), (0, .ref 52), (1, .ref 57), (2, .int (nI n)), (3, .ref 54), (4, .ref 55), (5, .ref 56)]) ⟨rfl, rfl, rfl, rfl, rfl, rfl, rfl, rfl, rfl, rfl, rfl, trivial⟩ ?_
          exact ih (i + 1) (by omega)
        · refine zz_iconst (v := 1) dL_isAlgebra_275 (by decide) ?_
          refine zz_goto (tgt := 280) dL_isAlgebra_276 (by decide) ?_
          refine zz_topz (b := MB 54 i) (by
            rw [ex, he _ _ (by omega) h2, ← ey, ← ez]
            first | (rw [zB_n.mp h264]; rfl) | (rw [zB_0.mp h264, zB_n.mp h272]; rfl) | (rw [zB_0.mp h264, zB_0.mp h272]; rfl)) ?_
          refine zz_icmp_ne (tgt := 287) dL_isAlgebra_280 (by decide) (fun h => absurd rfl h) (fun _ => ?_)
          refine zz_iconst (v := 1) dL_isAlgebra_283 (by decide) ?_
          refine zz_goto (tgt := 288) dL_isAlgebra_284 (by decide) ?_
          refine zz_istore dL_isAlgebra_288 (by decide) ?_
          refine zz_iinc (v := nI (i + 1)) dL_isAlgebra_290 rfl (nI_1 i) (by decide) ?_
          refine zz_goto (tgt := 232) dL_isAlgebra_293 (by decide) ?_
          refine zz_lvl (lv2 := [(12, .int (nI (i + 1))), (11, .int (nI y)), (9, .int 1), (7, .int (nI b)), (6, .int (nI a)), (0, .ref 52), (1, .ref 57), (2, .int (nI n)), (3, .ref 54), (4, .ref 55), (5, .ref 56)]) ⟨rfl, rfl, rfl, rfl, rfl, rfl, rfl, rfl, rfl, rfl, rfl, trivial⟩ ?_
          exact ih (i + 1) (by omega)
set_option maxHeartbeats 1000000 in
set_option maxRecDepth 20000 in
theorem al_130 {a b c : Nat} (ha : a < 3) (hb : b < 3) (hc : c < 3) (hI : cI n El Lo Hi BL BH R mk) : zz_E mL_isAlgebra none 9 1900 11400 (trQ n T) 130 [(9, .int 1), (8, .int (nI c)), (7, .int (nI b)), (6, .int (nI a)), (0, .ref 52), (1, .ref 57), (2, .int (nI n)), (3, .ref 54), (4, .ref 55), (5, .ref 56)] [] (px El Lo Hi BL BH Od Ls (nI n) (pl MB rho nu T)) := by
  have hn := cI_n hI
  have h1 := cI_1 hI
  have ha4 : a < 4 := by omega
  have hb4 : b < 4 := by omega
  have ha3 : a ≠ 3 := by omega
  have hb3 : b ≠ 3 := by omega
  have hc4 : c < 4 := by omega
  have hc3 : c ≠ 3 := by omega
  refine zz_aload_n dL_isAlgebra_130 rfl ?_
  refine zz_iload dL_isAlgebra_131 rfl ?_
  refine zz_iconst (v := 3) dL_isAlgebra_133 (by decide) ?_
  refine zz_callV (ci := 4) (y_copy hb4 rfl hI) dL_isAlgebra_134 zw_m_L_135 wYX4_copy wDX4_copy rfl (by omega) px_x rfl (Nat.le_of_ble_eq_true rfl) (by decide) (by omega) (by omega) rfl ?_ (fun E τ hE => by cases hE.1)
  rintro v1 τ1 ⟨hv1, El1, Lo1, Hi1, BL1, BH1, Od1, Ls1, hI1, rfl⟩
  cases hv1
  refine zz_istore dL_isAlgebra_137 (by decide) ?_
  refine zz_aload_n dL_isAlgebra_139 rfl ?_
  refine zz_iconst (v := 0) dL_isAlgebra_140 (by decide) ?_
  refine zz_iconst (v := 3) dL_isAlgebra_141 (by decide) ?_
  refine zz_iload dL_isAlgebra_142 rfl ?_
  refine zz_iconst (v := 0) dL_isAlgebra_144 (by decide) ?_
  refine zz_callSH rfl (dv_combine px_x 3 (nI c) 0 (y_combine (r := 3) (w := c) (h := 0) (by omega) hc4 (by omega) (up_at _ _ _) (up_ne _ _ hc3) hI1)) dL_isAlgebra_145 zw_m_L_72 wYL_done wDL_done rfl (Nat.le_of_ble_eq_true rfl) (by decide) (by omega) (by omega) rfl ?_ (fun E τ hE => by cases hE.1)
  rintro v2 τ2 ⟨hv2, El2, Lo2, Hi2, BL2, BH2, Od2, Ls2, hI2, rfl⟩
  cases hv2
  rw [up_up] at hI2
  refine zz_istore dL_isAlgebra_148 (by decide) ?_
  refine zz_iload dL_isAlgebra_150 rfl ?_
  refine zz_if_eq (tgt := 226) dL_isAlgebra_152 (by decide) (fun h => absurd h (by decide)) (fun _ => ?_)
  refine zz_aload_n dL_isAlgebra_155 rfl ?_
  refine zz_iload dL_isAlgebra_156 rfl ?_
  refine zz_iconst (v := 3) dL_isAlgebra_158 (by decide) ?_
  refine zz_iconst (v := 3) dL_isAlgebra_159 (by decide) ?_
  refine zz_callV (ci := 4) (y_compose (b := 3) ha4 (by omega) (up_ne _ _ ha3) (up_at _ _ _) hI2) dL_isAlgebra_160 zw_m_L_160 wYX4_compose wDX4_compose rfl (by omega) px_x rfl (Nat.le_of_ble_eq_true rfl) (by decide) (by omega) (by omega) rfl ?_ (fun E τ hE => by cases hE.1)
  rintro v3 τ3 ⟨hv3, El3, Lo3, Hi3, BL3, BH3, Od3, Ls3, hI3, rfl⟩
  cases hv3
  rw [up_up] at hI3
  refine zz_if_lt (tgt := 226) dL_isAlgebra_163 (by decide) (fun h => absurd h (pn_pos hn _)) (fun _ => ?_)
  refine zz_aload_n dL_isAlgebra_166 rfl ?_
  refine zz_iconst (v := 3) dL_isAlgebra_167 (by decide) ?_
  refine zz_iload_n dL_isAlgebra_168 rfl ?_
  refine zz_aload_n dL_isAlgebra_169 rfl ?_
  refine zz_callS (y_sees (r := 3) (q := 54) (by omega) (by omega) (up_at _ _ _) hI3) dL_isAlgebra_170 zw_m_L_87 wYL_sees wDL_sees rfl (Nat.le_of_ble_eq_true rfl) (by decide) (by omega) (by omega) rfl ?_ (fun E τ hE => by obtain ⟨_, _, _, hE, _⟩ := hE; cases hE)
  rintro v4 τ4 ⟨MB4, hg4, hp4, hv4, El4, Lo4, Hi4, BL4, BH4, Od4, Ls4, hI4, rfl⟩
  cases hv4
  refine zz_if_lt (tgt := 226) dL_isAlgebra_173 (by decide) (fun h => absurd h (pn_pos hn _)) (fun _ => ?_)
  refine zz_aload_n dL_isAlgebra_176 rfl ?_
  refine zz_iload dL_isAlgebra_177 rfl ?_
  refine zz_iload dL_isAlgebra_179 rfl ?_
  refine zz_iconst (v := 3) dL_isAlgebra_181 (by decide) ?_
  refine zz_callV (ci := 4) (y_compose ha4 hb4 (up_ne _ _ ha3) (up_ne _ _ hb3) hI4) dL_isAlgebra_182 zw_m_L_160 wYX4_compose wDX4_compose rfl (by omega) px_x rfl (Nat.le_of_ble_eq_true rfl) (by decide) (by omega) (by omega) rfl ?_ (fun E τ hE => by cases hE.1)
  rintro v5 τ5 ⟨hv5, El5, Lo5, Hi5, BL5, BH5, Od5, Ls5, hI5, rfl⟩
  cases hv5
  rw [up_up] at hI5
  refine zz_if_lt (tgt := 226) dL_isAlgebra_185 (by decide) (fun h => absurd h (pn_pos hn _)) (fun _ => ?_)
  refine zz_aload_n dL_isAlgebra_188 rfl ?_
  refine zz_iconst (v := 3) dL_isAlgebra_189 (by decide) ?_
  refine zz_iload_n dL_isAlgebra_190 rfl ?_
  refine zz_aload dL_isAlgebra_191 rfl ?_
  refine zz_callS (y_sees (r := 3) (q := 55) (by omega) (by omega) (up_at _ _ _) hI5) dL_isAlgebra_193 zw_m_L_87 wYL_sees wDL_sees rfl (Nat.le_of_ble_eq_true rfl) (by decide) (by omega) (by omega) rfl ?_ (fun E τ hE => by obtain ⟨_, _, _, hE, _⟩ := hE; cases hE)
  rintro v6 τ6 ⟨MB6, hg6, hp6, hv6, El6, Lo6, Hi6, BL6, BH6, Od6, Ls6, hI6, rfl⟩
  cases hv6
  refine zz_if_lt (tgt := 226) dL_isAlgebra_196 (by decide) (fun h => absurd h (pn_pos hn _)) (fun _ => ?_)
  refine zz_aload_n dL_isAlgebra_199 rfl ?_
  refine zz_iload dL_isAlgebra_200 rfl ?_
  refine zz_iload dL_isAlgebra_202 rfl ?_
  refine zz_iconst (v := 3) dL_isAlgebra_204 (by decide) ?_
  refine zz_callV (ci := 4) (y_compose ha4 hc4 (up_ne _ _ ha3) (up_ne _ _ hc3) hI6) dL_isAlgebra_205 zw_m_L_160 wYX4_compose wDX4_compose rfl (by omega) px_x rfl (Nat.le_of_ble_eq_true rfl) (by decide) (by omega) (by omega) rfl ?_ (fun E τ hE => by cases hE.1)
  rintro v7 τ7 ⟨hv7, El7, Lo7, Hi7, BL7, BH7, Od7, Ls7, hI7, rfl⟩
  cases hv7
  rw [up_up] at hI7
  refine zz_if_lt (tgt := 226) dL_isAlgebra_208 (by decide) (fun h => absurd h (pn_pos hn _)) (fun _ => ?_)
  refine zz_aload_n dL_isAlgebra_211 rfl ?_
  refine zz_iconst (v := 3) dL_isAlgebra_212 (by decide) ?_
  refine zz_iload_n dL_isAlgebra_213 rfl ?_
  refine zz_aload dL_isAlgebra_214 rfl ?_
  refine zz_callS (y_sees (r := 3) (q := 56) (by omega) (by omega) (up_at _ _ _) hI7) dL_isAlgebra_216 zw_m_L_87 wYL_sees wDL_sees rfl (Nat.le_of_ble_eq_true rfl) (by decide) (by omega) (by omega) rfl ?_ (fun E τ hE => by obtain ⟨_, _, _, hE, _⟩ := hE; cases hE)
  rintro v8 τ8 ⟨MB8, hg8, hp8, hv8, El8, Lo8, Hi8, BL8, BH8, Od8, Ls8, hI8, rfl⟩
  cases hv8
  have hx8 : gr n (MB8 54) (cpR n (R a) (fun i k => cmb 0 (R b i k) (R c i k))) := by rw [hp8 54 (by omega), hp6 54 (by omega)]; exact hg4
  have hy8 : gr n (MB8 55) (cpR n (R a) (R b)) := by rw [hp8 55 (by omega)]; exact hg6
  refine zz_if_lt (tgt := 226) dL_isAlgebra_219 (by decide) (fun h => absurd h (pn_pos hn _)) (fun _ => ?_)
  refine zz_iconst (v := 1) dL_isAlgebra_222 (by decide) ?_
  refine zz_goto (tgt := 227) dL_isAlgebra_223 (by decide) ?_
  refine zz_istore dL_isAlgebra_227 (by decide) ?_
  refine zz_iconst (v := 0) dL_isAlgebra_229 (by decide) ?_
  refine zz_istore dL_isAlgebra_230 (by decide) ?_
  refine zz_less (rc1 := 1400) (rz1 := 8400) (by omega) (by omega) ?_
  refine zz_lvl (lv2 := [(12, .int (nI 0)), (11, .int (nI (pn n (fun i k => cmb 0 (R b i k) (R c i k))))), (9, .int 1), (7, .int (nI b)), (6, .int (nI a)), (0, .ref 52), (1, .ref 57), (2, .int (nI n)), (3, .ref 54), (4, .ref 55), (5, .ref 56)]) ⟨rfl, rfl, rfl, rfl, rfl, rfl, rfl, rfl, rfl, rfl, rfl, trivial⟩ ?_
  exact al_232 hn hx8 hy8 hg8 (fun i k _ _ => cpR_or n (R a) (R b) (R c) i k) _ _ (al_296 ha hb (pn_6400 hn _) hI8) (80 * n) 0 (by omega)
end ZYW3
