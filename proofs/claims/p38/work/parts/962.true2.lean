section ZYT2
variable {El : Nat → Int32} {Lo Hi : Nat → Nat → Int64} {BL BH : Nat → Int64} {Od : Nat → Nat → Int32} {Ls : Nat → Int32} {n : Nat} {R : Nat → Nat → Nat → Bool} {mk : Nat → Bool} {MB : Nat → Nat → Bool} {rho nu : Nat → Int32} {T : zz_St}
set_option maxHeartbeats 1000000 in
set_option maxRecDepth 20000 in
theorem tr_259 {r : Nat} (hr : r < 3) (hI : cI n El Lo Hi BL BH R mk) (hg4 : gr n (MB 54) (R r)) (hg5 : gr n (MB 55) (rchB (R r) n)) (hk0 : zz_k T = 0) : zz_E mL_isTrue none 11 700 4200 (trQ n T) 259 [(12, .int (nI (cnt (fun j => decide (lsN (rchB (R r) n) j = j)) n))), (9, .int 1), (8, .int (zB (anb (fun k => rchB (R r) n k k) n))), (7, .int (nI (pn n (R r)))), (0, .ref 52), (1, .ref 57), (2, .int (nI r)), (3, .int (nI n)), (4, .ref 54), (5, .ref 55), (6, .ref 56)] [] (px El Lo Hi BL BH Od Ls (nI n) (pl MB rho nu T)) := by
  have hn := cI_n hI
  have h1 := cI_1 hI
  have hr4 : r < 4 := by omega
  have hr3 : r ≠ 3 := by omega
  refine zz_iload dL_isTrue_259 rfl ?_
  refine zz_if_eq (tgt := 278) dL_isTrue_261 (by decide) (fun h => absurd h (by decide)) (fun _ => ?_)
  refine zz_aload_n dL_isTrue_264 rfl ?_
  refine zz_iload_n dL_isTrue_265 rfl ?_
  refine zz_callV (ci := 4) (x_classes_v (r := r) hr4 hI) dL_isTrue_266 zw_m_L_124 wYX4_classes wDX4_classes rfl (by omega) px_x rfl (Nat.le_of_ble_eq_true rfl) (by decide) (by omega) (by omega) rfl ?_ (fun E τ hE => by cases hE.1)
  rintro v1 τ1 ⟨hv1, El1, Lo1, Hi1, BL1, BH1, Od1, Ls1, hI1, rfl⟩
  cases hv1
  refine zz_iload dL_isTrue_269 rfl ?_
  refine zz_icmp_ne (tgt := 278) dL_isTrue_271 (by decide) (fun h => absurd rfl h) (fun _ => ?_)
  refine zz_iconst (v := 1) dL_isTrue_274 (by decide) ?_
  refine zz_goto (tgt := 279) dL_isTrue_275 (by decide) ?_
  refine zz_istore dL_isTrue_279 (by decide) ?_
  refine zz_iload dL_isTrue_281 rfl ?_
  refine zz_if_eq (tgt := 340) dL_isTrue_283 (by decide) (fun h283 => ?_) (fun h283 => ?_)
  · have hrb := zB_0.mp h283
    have hrg : ¬ rng1 (R r) n := fun q => by rw [ring_b.mpr q] at hrb; cases hrb
    refine zz_iload dL_isTrue_340 rfl ?_
    refine zz_if_eq (tgt := 373) dL_isTrue_342 (by decide) (fun h => absurd h (by decide)) (fun _ => ?_)
    refine zz_aload_n dL_isTrue_345 rfl ?_
    refine zz_iload_n dL_isTrue_346 rfl ?_
    refine zz_iload_n dL_isTrue_347 rfl ?_
    refine zz_aload dL_isTrue_348 rfl ?_
    refine zz_callS (c_isOrder hr4 hrg hk0 hg4 hI1) dL_isTrue_350 zw_m_L_127 wYL_isOrder wDL_isOrder rfl (Nat.le_of_ble_eq_true rfl) (by decide) (by omega) (by omega) rfl ?_ (fun E τ hE => by obtain ⟨_, _, _, hE, _⟩ := hE; cases hE)
    rintro v5 τ5 ⟨MB5, nu5, hp5, hv5, El5, Lo5, Hi5, BL5, BH5, Od5, Ls5, hI5, rfl⟩
    cases hv5
    have hg55 : gr n (MB5 55) (rchB (R r) n) := by rw [hp5 55 (by omega)]; exact hg5
    refine zz_if_eq (tgt := 373) dL_isTrue_353 (by decide) (fun h => absurd h (by decide)) (fun _ => ?_)
    refine zz_aload_n dL_isTrue_356 rfl ?_
    refine zz_iload_n dL_isTrue_357 rfl ?_
    refine zz_iload_n dL_isTrue_358 rfl ?_
    refine zz_aload dL_isTrue_359 rfl ?_
    refine zz_aload dL_isTrue_361 rfl ?_
    refine zz_callS (c_areCovers hr hrg hg55 hI5) dL_isTrue_363 zw_m_L_131 wYL_areCovers wDL_areCovers rfl (Nat.le_of_ble_eq_true rfl) (by decide) (by omega) (by omega) rfl ?_ (fun E τ hE => by obtain ⟨_, _, _, hE, _⟩ := hE; cases hE)
    rintro v6 τ6 ⟨X3, MB6, hp6, hv6, El6, Lo6, Hi6, BL6, BH6, Od6, Ls6, hI6, rfl⟩
    cases hv6
    have hg65 : gr n (MB6 55) (rchB (R r) n) := by rw [hp6 55 (by omega)]; exact hg55
    refine zz_if_eq (tgt := 373) dL_isTrue_366 (by decide) (fun h => absurd h (by decide)) (fun _ => ?_)
    refine zz_iconst (v := 1) dL_isTrue_369 (by decide) ?_
    refine zz_goto (tgt := 374) dL_isTrue_370 (by decide) ?_
    refine zz_istore dL_isTrue_374 (by decide) ?_
    first
      | exact zz_less (by omega) (by omega) (zz_lvl (lv2 := [(9, .int 1), (7, .int (nI (pn n (R r)))), (0, .ref 52), (1, .ref 57), (2, .int (nI r)), (3, .int (nI n)), (4, .ref 54), (5, .ref 55), (6, .ref 56)]) ⟨rfl, rfl, rfl, rfl, rfl, rfl, rfl, rfl, rfl, trivial⟩ (tr_376 hr hI4 (X := R r) rfl hg5))
      | exact zz_less (by omega) (by omega) (zz_lvl (lv2 := [(9, .int 1), (7, .int (nI (pn n (R r)))), (0, .ref 52), (1, .ref 57), (2, .int (nI r)), (3, .int (nI n)), (4, .ref 54), (5, .ref 55), (6, .ref 56)]) ⟨rfl, rfl, rfl, rfl, rfl, rfl, rfl, rfl, rfl, trivial⟩ (tr_376 hr hI6 (X := R r) (up_ne _ _ hr3) hg65))
  · have hrb := zB_n.mp h283
    have hrg := ring_b.mp hrb
    have hor : ¬ orN (R r) n = n := fun q => or_ring.mp q hrg
    refine zz_iload dL_isTrue_286 rfl ?_
    refine zz_if_eq (tgt := 334) dL_isTrue_288 (by decide) (fun h => absurd h (by decide)) (fun _ => ?_)
    refine zz_aload_n dL_isTrue_291 rfl ?_
    refine zz_iconst (v := 2) dL_isTrue_292 (by decide) ?_
    refine zz_iload_n dL_isTrue_293 rfl ?_
    refine zz_iconst (v := 0) dL_isTrue_294 (by decide) ?_
    refine zz_iconst (v := 0) dL_isTrue_295 (by decide) ?_
    refine zz_callSH rfl (dxIS_orderAt px_x (nI r) 0 0 (x_orderAt_3 (i := 0) hr4 h1 hor hI1)) dL_isTrue_296 zw_m_L_72 wYL_done wDL_done rfl (Nat.le_of_ble_eq_true rfl) (by decide) (by omega) (by omega) rfl ?_ (fun E τ hE => by cases hE.1)
    rintro v2 τ2 ⟨hv2, El2, Lo2, Hi2, BL2, BH2, Od2, Ls2, hI2, rfl⟩
    cases hv2
    refine zz_bipush (v := (-3)) dL_isTrue_299 (by decide) ?_
    refine zz_icmp_ne (tgt := 334) dL_isTrue_301 (by decide) (fun h => absurd rfl h) (fun _ => ?_)
    refine zz_aload_n dL_isTrue_304 rfl ?_
    refine zz_iconst (v := 3) dL_isTrue_305 (by decide) ?_
    refine zz_iload_n dL_isTrue_306 rfl ?_
    refine zz_iconst (v := 0) dL_isTrue_307 (by decide) ?_
    refine zz_iconst (v := 0) dL_isTrue_308 (by decide) ?_
    refine zz_callSH rfl (dxIS_longestWalk px_x (nI r) 0 0 (x_longestWalk_2 hr4 hrg hI2)) dL_isTrue_309 zw_m_L_72 wYL_done wDL_done rfl (Nat.le_of_ble_eq_true rfl) (by decide) (by omega) (by omega) rfl ?_ (fun E τ hE => by cases hE.1)
    rintro v3 τ3 ⟨hv3, El3, Lo3, Hi3, BL3, BH3, Od3, Ls3, hI3, rfl⟩
    cases hv3
    refine zz_bipush (v := (-3)) dL_isTrue_312 (by decide) ?_
    refine zz_icmp_ne (tgt := 334) dL_isTrue_314 (by decide) (fun h => absurd rfl h) (fun _ => ?_)
    refine zz_aload_n dL_isTrue_317 rfl ?_
    refine zz_iconst (v := 1) dL_isTrue_318 (by decide) ?_
    refine zz_iload_n dL_isTrue_319 rfl ?_
    refine zz_iconst (v := 3) dL_isTrue_320 (by decide) ?_
    refine zz_iconst (v := 0) dL_isTrue_321 (by decide) ?_
    refine zz_callSH rfl (dxIS_cover px_x (nI r) 3 0 (x_cover_3 (w := 3) hr4 (by omega) hrb hI3)) dL_isTrue_322 zw_m_L_72 wYL_done wDL_done rfl (Nat.le_of_ble_eq_true rfl) (by decide) (by omega) (by omega) rfl ?_ (fun E τ hE => by cases hE.1)
    rintro v4 τ4 ⟨hv4, El4, Lo4, Hi4, BL4, BH4, Od4, Ls4, hI4, rfl⟩
    cases hv4
    refine zz_bipush (v := (-3)) dL_isTrue_325 (by decide) ?_
    refine zz_icmp_ne (tgt := 334) dL_isTrue_327 (by decide) (fun h => absurd rfl h) (fun _ => ?_)
    refine zz_iconst (v := 1) dL_isTrue_330 (by decide) ?_
    refine zz_goto (tgt := 335) dL_isTrue_331 (by decide) ?_
    refine zz_istore dL_isTrue_335 (by decide) ?_
    refine zz_goto (tgt := 376) dL_isTrue_337 (by decide) ?_
    first
      | exact zz_less (by omega) (by omega) (zz_lvl (lv2 := [(9, .int 1), (7, .int (nI (pn n (R r)))), (0, .ref 52), (1, .ref 57), (2, .int (nI r)), (3, .int (nI n)), (4, .ref 54), (5, .ref 55), (6, .ref 56)]) ⟨rfl, rfl, rfl, rfl, rfl, rfl, rfl, rfl, rfl, trivial⟩ (tr_376 hr hI4 (X := R r) rfl hg5))
      | exact zz_less (by omega) (by omega) (zz_lvl (lv2 := [(9, .int 1), (7, .int (nI (pn n (R r)))), (0, .ref 52), (1, .ref 57), (2, .int (nI r)), (3, .int (nI n)), (4, .ref 54), (5, .ref 55), (6, .ref 56)]) ⟨rfl, rfl, rfl, rfl, rfl, rfl, rfl, rfl, rfl, trivial⟩ (tr_376 hr hI6 (X := R r) (up_ne _ _ hr3) hg65))
set_option maxHeartbeats 1000000 in
set_option maxRecDepth 20000 in
theorem tr_169 {r x : Nat} {z12 z8 z7 : Int32} (hn : n ≤ 80) (hx : x < n) {A : Nat → Nat → Bool} (hg : gr n (MB 55) A) (rc rz : Nat) (K : zz_E mL_isTrue none 11 rc rz (trQ n T) 210 [(14, .int (nI (lsN A x))), (13, .int (nI x)), (12, .int z12), (9, .int 1), (8, .int z8), (7, .int z7), (0, .ref 52), (1, .ref 57), (2, .int (nI r)), (3, .int (nI n)), (4, .ref 54), (5, .ref 55), (6, .ref 56)] [] (px El Lo Hi BL BH Od Ls (nI n) (pl MB rho nu T))) : ∀ (m i : Nat), i + m = x → (∀ j, j < i → (A j x && A x j) = false) → zz_E mL_isTrue none 11 rc rz (trQ n T) 169 [(14, .int (nI i)), (13, .int (nI x)), (12, .int z12), (9, .int 1), (8, .int z8), (7, .int z7), (0, .ref 52), (1, .ref 57), (2, .int (nI r)), (3, .int (nI n)), (4, .ref 54), (5, .ref 55), (6, .ref 56)] [] (px El Lo Hi BL BH Od Ls (nI n) (pl MB rho nu T)) := by
  intro m
  induction m with
  | zero =>
    intro i hi h0
    have hk : x = i := by omega
    subst hk
    rw [lsN_no h0] at K
    refine zz_iload dL_isTrue_169 rfl ?_
    refine zz_iload dL_isTrue_171 rfl ?_
    refine zz_icmp_ge (tgt := 210) dL_isTrue_173 (by decide) (fun _ => ?_) (fun h => absurd (nI_le (Nat.le_refl _) (by omega)) h)
    refine zz_lvl (lv2 := [(14, .int (nI x)), (13, .int (nI x)), (12, .int z12), (9, .int 1), (8, .int z8), (7, .int z7), (0, .ref 52), (1, .ref 57), (2, .int (nI r)), (3, .int (nI n)), (4, .ref 54), (5, .ref 55), (6, .ref 56)]) ⟨rfl, rfl, rfl, rfl, rfl, rfl, rfl, rfl, rfl, rfl, rfl, rfl, rfl, trivial⟩ ?_
    exact K
  | succ m ih =>
    intro i hi h0
    have hk : i < x := by omega
    refine zz_iload dL_isTrue_169 rfl ?_
    refine zz_iload dL_isTrue_171 rfl ?_
    refine zz_icmp_ge (tgt := 210) dL_isTrue_173 (by decide) (fun h => absurd h (nI_ge (by omega) (by omega))) (fun _ => ?_)
    refine zz_aload dL_isTrue_176 rfl ?_
    refine zz_bipush (v := 80) dL_isTrue_178 (by decide) ?_
    refine zz_iload dL_isTrue_180 rfl ?_
    refine zz_imul dL_isTrue_182 ?_
    refine zz_iload dL_isTrue_183 rfl ?_
    refine zz_iadd dL_isTrue_185 ?_
    refine zz_tope (y := nI (80 * i + x)) (by simp only [i80, i81, pk_mul, nI_add, nI_1]) ?_
    refine zl_qb dL_isTrue_186 (by omega) (by omega) ?_
    rw [hg i x (by omega) hx]
    refine zz_if_eq (tgt := 204) dL_isTrue_187 (by decide) (fun h187 => ?_) (fun h187 => ?_)
    · refine zz_iinc (v := nI (i + 1)) dL_isTrue_204 rfl (nI_1 i) (by decide) ?_
      refine zz_goto (tgt := 169) dL_isTrue_207 (by decide) ?_
      refine zz_lvl (lv2 := [(14, .int (nI (i + 1))), (13, .int (nI x)), (12, .int z12), (9, .int 1), (8, .int z8), (7, .int z7), (0, .ref 52), (1, .ref 57), (2, .int (nI r)), (3, .int (nI n)), (4, .ref 54), (5, .ref 55), (6, .ref 56)]) ⟨rfl, rfl, rfl, rfl, rfl, rfl, rfl, rfl, rfl, rfl, rfl, rfl, rfl, trivial⟩ ?_
      refine ih (i + 1) (by omega) (fun j hj => ?_)
      by_cases e : j = i
      · rw [e]
        first | (rw [zB_0.mp h187]; rfl) | (rw [zB_0.mp h201, Bool.and_false])
      · exact h0 j (by omega)
    · refine zz_aload dL_isTrue_190 rfl ?_
      refine zz_bipush (v := 80) dL_isTrue_192 (by decide) ?_
      refine zz_iload dL_isTrue_194 rfl ?_
      refine zz_imul dL_isTrue_196 ?_
      refine zz_iload dL_isTrue_197 rfl ?_
      refine zz_iadd dL_isTrue_199 ?_
      refine zz_tope (y := nI (80 * x + i)) (by simp only [i80, i81, pk_mul, nI_add, nI_1]) ?_
      refine zl_qb dL_isTrue_200 (by omega) (by omega) ?_
      rw [hg x i hx (by omega)]
      refine zz_if_ne (tgt := 210) dL_isTrue_201 (by decide) (fun h201 => ?_) (fun h201 => ?_)
      · rw [lsN_at hk h0 (zB_n.mp h187) (zB_n.mp h201)] at K
        refine zz_lvl (lv2 := [(14, .int (nI i)), (13, .int (nI x)), (12, .int z12), (9, .int 1), (8, .int z8), (7, .int z7), (0, .ref 52), (1, .ref 57), (2, .int (nI r)), (3, .int (nI n)), (4, .ref 54), (5, .ref 55), (6, .ref 56)]) ⟨rfl, rfl, rfl, rfl, rfl, rfl, rfl, rfl, rfl, rfl, rfl, rfl, rfl, trivial⟩ ?_
        exact K
      · refine zz_iinc (v := nI (i + 1)) dL_isTrue_204 rfl (nI_1 i) (by decide) ?_
        refine zz_goto (tgt := 169) dL_isTrue_207 (by decide) ?_
        refine zz_lvl (lv2 := [(14, .int (nI (i + 1))), (13, .int (nI x)), (12, .int z12), (9, .int 1), (8, .int z8), (7, .int z7), (0, .ref 52), (1, .ref 57), (2, .int (nI r)), (3, .int (nI n)), (4, .ref 54), (5, .ref 55), (6, .ref 56)]) ⟨rfl, rfl, rfl, rfl, rfl, rfl, rfl, rfl, rfl, rfl, rfl, rfl, rfl, trivial⟩ ?_
        refine ih (i + 1) (by omega) (fun j hj => ?_)
        by_cases e : j = i
        · rw [e]
          first | (rw [zB_0.mp h187]; rfl) | (rw [zB_0.mp h201, Bool.and_false])
        · exact h0 j (by omega)
set_option maxHeartbeats 1000000 in
set_option maxRecDepth 20000 in
theorem tr_155 {r : Nat} (hr : r < 3) {z8 z7 : Int32} (hn : n ≤ 80) (hg5 : gr n (MB 55) (rchB (R r) n)) (rc rz : Nat) (K : ∀ (El : Nat → Int32) (Lo Hi : Nat → Nat → Int64) (BL BH : Nat → Int64) (Od : Nat → Nat → Int32) (Ls : Nat → Int32), cI n El Lo Hi BL BH R mk → zz_E mL_isTrue none 11 rc rz (trQ n T) 259 [(12, .int (nI (cnt (fun j => decide (lsN (rchB (R r) n) j = j)) n))), (9, .int 1), (8, .int z8), (7, .int z7), (0, .ref 52), (1, .ref 57), (2, .int (nI r)), (3, .int (nI n)), (4, .ref 54), (5, .ref 55), (6, .ref 56)] [] (px El Lo Hi BL BH Od Ls (nI n) (pl MB rho nu T))) : ∀ (m i : Nat), i + m = n → ∀ (El : Nat → Int32) (Lo Hi : Nat → Nat → Int64) (BL BH : Nat → Int64) (Od : Nat → Nat → Int32) (Ls : Nat → Int32), cI n El Lo Hi BL BH R mk → zz_E mL_isTrue none 11 (m + rc) (6 * m + rz) (trQ n T) 155 [(13, .int (nI i)), (12, .int (nI (cnt (fun j => decide (lsN (rchB (R r) n) j = j)) i))), (9, .int 1), (8, .int z8), (7, .int z7), (0, .ref 52), (1, .ref 57), (2, .int (nI r)), (3, .int (nI n)), (4, .ref 54), (5, .ref 55), (6, .ref 56)] [] (px El Lo Hi BL BH Od Ls (nI n) (pl MB rho nu T)) := by
  intro m
  induction m with
  | zero =>
    intro i hi El Lo Hi BL BH Od Ls hI
    have hk : n = i := by omega
    subst hk
    refine zz_iload dL_isTrue_155 rfl ?_
    refine zz_iload_n dL_isTrue_157 rfl ?_
    refine zz_icmp_ge (tgt := 259) dL_isTrue_158 (by decide) (fun _ => ?_) (fun h => absurd (nI_le (Nat.le_refl _) (by omega)) h)
    refine zz_less (rc1 := rc) (rz1 := rz) (by omega) (by omega) ?_
    refine zz_lvl (lv2 := [(12, .int (nI (cnt (fun j => decide (lsN (rchB (R r) n) j = j)) n))), (9, .int 1), (8, .int z8), (7, .int z7), (0, .ref 52), (1, .ref 57), (2, .int (nI r)), (3, .int (nI n)), (4, .ref 54), (5, .ref 55), (6, .ref 56)]) ⟨rfl, rfl, rfl, rfl, rfl, rfl, rfl, rfl, rfl, rfl, rfl, trivial⟩ ?_
    exact K _ _ _ _ _ _ _ hI
  | succ m ih =>
    intro i hi El Lo Hi BL BH Od Ls hI
    have hk : i < n := by omega
    have hr4 : r < 4 := by omega
    have hls := lsN_le (rchB (R r) n) i
    refine zz_iload dL_isTrue_155 rfl ?_
    refine zz_iload_n dL_isTrue_157 rfl ?_
    refine zz_icmp_ge (tgt := 259) dL_isTrue_158 (by decide) (fun h => absurd h (nI_ge (by omega) (by omega))) (fun _ => ?_)
    refine zz_iload dL_isTrue_161 rfl ?_
    refine zz_if_eq (tgt := 259) dL_isTrue_163 (by decide) (fun h => absurd h (by decide)) (fun _ => ?_)
    refine zz_iconst (v := 0) dL_isTrue_166 (by decide) ?_
    refine zz_istore dL_isTrue_167 (by decide) ?_
    refine zz_lvl (lv2 := [(14, .int (nI 0)), (13, .int (nI i)), (12, .int (nI (cnt (fun j => decide (lsN (rchB (R r) n) j = j)) i))), (9, .int 1), (8, .int z8), (7, .int z7), (0, .ref 52), (1, .ref 57), (2, .int (nI r)), (3, .int (nI n)), (4, .ref 54), (5, .ref 55), (6, .ref 56)]) ⟨rfl, rfl, rfl, rfl, rfl, rfl, rfl, rfl, rfl, rfl, rfl, rfl, rfl, trivial⟩ ?_
    refine tr_169 hn hk hg5 _ _ ?_ i 0 (by omega) (fun j h => absurd h (Nat.not_lt_zero j))
    refine zz_iload dL_isTrue_210 rfl ?_
    refine zz_iload dL_isTrue_212 rfl ?_
    refine zz_iload dL_isTrue_214 rfl ?_
    refine zz_icmp_ne (tgt := 223) dL_isTrue_216 (by decide) (fun h216 => ?_) (fun h216 => ?_)
    · refine zz_iconst (v := 0) dL_isTrue_223 (by decide) ?_
      refine zz_iadd dL_isTrue_224 ?_
      refine zz_tope (y := nI (cnt (fun j => decide (lsN (rchB (R r) n) j = j)) (i + 1))) (by first | (rw [cnt_st (decide_eq_true ((nI_eq (by omega) (by omega)).mp h216)), nI_1]) | (rw [cnt_sf (decide_eq_false (fun q => h216 (by rw [q]))), nI_a0])) ?_
      refine zz_istore dL_isTrue_225 (by decide) ?_
      refine zz_iload dL_isTrue_227 rfl ?_
      refine zz_iconst (v := 3) dL_isTrue_229 (by decide) ?_
      refine zz_irem dL_isTrue_230 ((by decide)) ?_
      refine zz_if_gt (tgt := 246) dL_isTrue_231 (by decide) (fun h231 => ?_) (fun h231 => ?_)
      · refine zz_iconst (v := 1) dL_isTrue_246 (by decide) ?_
        refine zz_goto (tgt := 251) dL_isTrue_247 (by decide) ?_
        refine zz_istore dL_isTrue_251 (by decide) ?_
        refine zz_iinc (v := nI (i + 1)) dL_isTrue_253 rfl (nI_1 i) (by decide) ?_
        refine zz_goto (tgt := 155) dL_isTrue_256 (by decide) ?_
        refine zz_less (rc1 := m + rc) (rz1 := 6 * m + rz) (by omega) (by omega) ?_
        refine zz_lvl (lv2 := [(13, .int (nI (i + 1))), (12, .int (nI (cnt (fun j => decide (lsN (rchB (R r) n) j = j)) (i + 1)))), (9, .int 1), (8, .int z8), (7, .int z7), (0, .ref 52), (1, .ref 57), (2, .int (nI r)), (3, .int (nI n)), (4, .ref 54), (5, .ref 55), (6, .ref 56)]) ⟨rfl, rfl, rfl, rfl, rfl, rfl, rfl, rfl, rfl, rfl, rfl, rfl, trivial⟩ ?_
        first | exact ih (i + 1) (by omega) _ _ _ _ _ _ _ hI1 | exact ih (i + 1) (by omega) _ _ _ _ _ _ _ hI
      · refine zz_aload_n dL_isTrue_234 rfl ?_
        refine zz_iload_n dL_isTrue_235 rfl ?_
        refine zz_iload dL_isTrue_236 rfl ?_
        refine zz_callV (ci := 4) (x_classOf_v (r := r) hr4 hk hI) dL_isTrue_238 zw_m_L_121 wYX4_classOf wDX4_classOf rfl (by omega) px_x rfl (Nat.le_of_ble_eq_true rfl) (by decide) (by omega) (by omega) rfl ?_ (fun E τ hE => by cases hE.1)
        rintro v1 τ1 ⟨hv1, El1, Lo1, Hi1, BL1, BH1, Od1, Ls1, hI1, rfl⟩
        cases hv1
        refine zz_iload dL_isTrue_241 rfl ?_
        refine zz_icmp_ne (tgt := 250) dL_isTrue_243 (by decide) (fun h => absurd rfl h) (fun _ => ?_)
        refine zz_iconst (v := 1) dL_isTrue_246 (by decide) ?_
        refine zz_goto (tgt := 251) dL_isTrue_247 (by decide) ?_
        refine zz_istore dL_isTrue_251 (by decide) ?_
        refine zz_iinc (v := nI (i + 1)) dL_isTrue_253 rfl (nI_1 i) (by decide) ?_
        refine zz_goto (tgt := 155) dL_isTrue_256 (by decide) ?_
        refine zz_less (rc1 := m + rc) (rz1 := 6 * m + rz) (by omega) (by omega) ?_
        refine zz_lvl (lv2 := [(13, .int (nI (i + 1))), (12, .int (nI (cnt (fun j => decide (lsN (rchB (R r) n) j = j)) (i + 1)))), (9, .int 1), (8, .int z8), (7, .int z7), (0, .ref 52), (1, .ref 57), (2, .int (nI r)), (3, .int (nI n)), (4, .ref 54), (5, .ref 55), (6, .ref 56)]) ⟨rfl, rfl, rfl, rfl, rfl, rfl, rfl, rfl, rfl, rfl, rfl, rfl, trivial⟩ ?_
        first | exact ih (i + 1) (by omega) _ _ _ _ _ _ _ hI1 | exact ih (i + 1) (by omega) _ _ _ _ _ _ _ hI
    · refine zz_iconst (v := 1) dL_isTrue_219 (by decide) ?_
      refine zz_goto (tgt := 224) dL_isTrue_220 (by decide) ?_
      refine zz_iadd dL_isTrue_224 ?_
      refine zz_tope (y := nI (cnt (fun j => decide (lsN (rchB (R r) n) j = j)) (i + 1))) (by first | (rw [cnt_st (decide_eq_true ((nI_eq (by omega) (by omega)).mp h216)), nI_1]) | (rw [cnt_sf (decide_eq_false (fun q => h216 (by rw [q]))), nI_a0])) ?_
      refine zz_istore dL_isTrue_225 (by decide) ?_
      refine zz_iload dL_isTrue_227 rfl ?_
      refine zz_iconst (v := 3) dL_isTrue_229 (by decide) ?_
      refine zz_irem dL_isTrue_230 ((by decide)) ?_
      refine zz_if_gt (tgt := 246) dL_isTrue_231 (by decide) (fun h231 => ?_) (fun h231 => ?_)
      · refine zz_iconst (v := 1) dL_isTrue_246 (by decide) ?_
        refine zz_goto (tgt := 251) dL_isTrue_247 (by decide) ?_
        refine zz_istore dL_isTrue_251 (by decide) ?_
        refine zz_iinc (v := nI (i + 1)) dL_isTrue_253 rfl (nI_1 i) (by decide) ?_
        refine zz_goto (tgt := 155) dL_isTrue_256 (by decide) ?_
        refine zz_less (rc1 := m + rc) (rz1 := 6 * m + rz) (by omega) (by omega) ?_
        refine zz_lvl (lv2 := [(13, .int (nI (i + 1))), (12, .int (nI (cnt (fun j => decide (lsN (rchB (R r) n) j = j)) (i + 1)))), (9, .int 1), (8, .int z8), (7, .int z7), (0, .ref 52), (1, .ref 57), (2, .int (nI r)), (3, .int (nI n)), (4, .ref 54), (5, .ref 55), (6, .ref 56)]) ⟨rfl, rfl, rfl, rfl, rfl, rfl, rfl, rfl, rfl, rfl, rfl, rfl, trivial⟩ ?_
        first | exact ih (i + 1) (by omega) _ _ _ _ _ _ _ hI1 | exact ih (i + 1) (by omega) _ _ _ _ _ _ _ hI
      · refine zz_aload_n dL_isTrue_234 rfl ?_
        refine zz_iload_n dL_isTrue_235 rfl ?_
        refine zz_iload dL_isTrue_236 rfl ?_
        refine zz_callV (ci := 4) (x_classOf_v (r := r) hr4 hk hI) dL_isTrue_238 zw_m_L_121 wYX4_classOf wDX4_classOf rfl (by omega) px_x rfl (Nat.le_of_ble_eq_true rfl) (by decide) (by omega) (by omega) rfl ?_ (fun E τ hE => by cases hE.1)
        rintro v1 τ1 ⟨hv1, El1, Lo1, Hi1, BL1, BH1, Od1, Ls1, hI1, rfl⟩
        cases hv1
        refine zz_iload dL_isTrue_241 rfl ?_
        refine zz_icmp_ne (tgt := 250) dL_isTrue_243 (by decide) (fun h => absurd rfl h) (fun _ => ?_)
        refine zz_iconst (v := 1) dL_isTrue_246 (by decide) ?_
        refine zz_goto (tgt := 251) dL_isTrue_247 (by decide) ?_
        refine zz_istore dL_isTrue_251 (by decide) ?_
        refine zz_iinc (v := nI (i + 1)) dL_isTrue_253 rfl (nI_1 i) (by decide) ?_
        refine zz_goto (tgt := 155) dL_isTrue_256 (by decide) ?_
        refine zz_less (rc1 := m + rc) (rz1 := 6 * m + rz) (by omega) (by omega) ?_
        refine zz_lvl (lv2 := [(13, .int (nI (i + 1))), (12, .int (nI (cnt (fun j => decide (lsN (rchB (R r) n) j = j)) (i + 1)))), (9, .int 1), (8, .int z8), (7, .int z7), (0, .ref 52), (1, .ref 57), (2, .int (nI r)), (3, .int (nI n)), (4, .ref 54), (5, .ref 55), (6, .ref 56)]) ⟨rfl, rfl, rfl, rfl, rfl, rfl, rfl, rfl, rfl, rfl, rfl, rfl, trivial⟩ ?_
        first | exact ih (i + 1) (by omega) _ _ _ _ _ _ _ hI1 | exact ih (i + 1) (by omega) _ _ _ _ _ _ _ hI
end ZYT2
