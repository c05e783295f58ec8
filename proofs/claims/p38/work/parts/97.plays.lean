section ZYX
variable {El : Nat → Int32} {Lo Hi : Nat → Nat → Int64} {BL BH : Nat → Int64} {Od : Nat → Nat → Int32} {Ls : Nat → Int32} {n : Nat} {R : Nat → Nat → Nat → Bool} {mk : Nat → Bool} {MB : Nat → Nat → Bool} {rho nu : Nat → Int32} {T : zz_St}
/-- the end of a play: it is right -/
def plQ (T : zz_St) : zz_Q := fun o τ => ∃ n R mk MB rho nu, xQ n R mk (pl MB rho nu T) (.inl (some (.int 1))) o τ
theorem plQ_i (h : cI n El Lo Hi BL BH R mk) : plQ T (.inl (some (.int 1))) (px El Lo Hi BL BH Od Ls (nI n) (pl MB rho nu T)) := ⟨n, R, mk, MB, rho, nu, xQ_i rfl h⟩
theorem isG_n1 (hn : n ≤ 80) : isG n 0 (nI (n + 1)) = false := by
  unfold isG
  rw [decide_eq_false (nI_ge (a := n) (b := n + 1) (by omega) (by omega)), Bool.and_false, Bool.and_false]
set_option maxHeartbeats 1000000 in
set_option maxRecDepth 20000 in
theorem pl_253 (hI : cI n El Lo Hi BL BH R mk) : zz_E mL_plays none 12 7 42 (plQ T) 253 [(6, .int 1), (5, .int (nI n)), (4, .ref 52), (0, .ref 57), (1, .ref 54), (2, .ref 55), (3, .ref 56)] [] (px El Lo Hi BL BH Od Ls (nI n) (pl MB rho nu T)) := by
  have hn := cI_n hI
  have h1 := cI_1 hI
  refine zz_iload dL_plays_253 rfl ?_
  refine zz_if_eq (tgt := 367) dL_plays_255 (by decide) (fun h => absurd h (by decide)) (fun _ => ?_)
  refine zz_aload dL_plays_258 rfl ?_
  refine zz_iconst (v := 0) dL_plays_260 (by decide) ?_
  refine zz_iconst (v := 0) dL_plays_261 (by decide) ?_
  refine zz_iconst (v := 4) dL_plays_262 (by decide) ?_
  refine zz_iconst (v := 0) dL_plays_263 (by decide) ?_
  refine zz_callSH rfl (dxIO_combine px_x 0 4 0 (x_combine_2 (r := 0) (by omega) (by decide) 0)) dL_plays_264 zw_m_L_72 wYL_done wDL_done rfl (Nat.le_of_ble_eq_true rfl) (by decide) (by omega) (by omega) rfl ?_ (fun E τ hE => by cases hE.1)
  rintro v1 τ1 ⟨hv1, rfl⟩
  cases hv1
  refine zz_iconst (v := (-1)) dL_plays_267 (by decide) ?_
  refine zz_icmp_ne (tgt := 367) dL_plays_268 (by decide) (fun h => absurd rfl h) (fun _ => ?_)
  refine zz_aload dL_plays_271 rfl ?_
  refine zz_iconst (v := 0) dL_plays_273 (by decide) ?_
  refine zz_iconst (v := 0) dL_plays_274 (by decide) ?_
  refine zz_iconst (v := 1) dL_plays_275 (by decide) ?_
  refine zz_iconst (v := 4) dL_plays_276 (by decide) ?_
  refine zz_callSH rfl (dxIA_combine px_x 0 1 4 (x_combine_3 (r := 0) (w := 1) (by omega) (by omega) (by decide))) dL_plays_277 zw_m_L_72 wYL_done wDL_done rfl (Nat.le_of_ble_eq_true rfl) (by decide) (by omega) (by omega) rfl ?_ (fun E τ hE => by cases hE.1)
  rintro v2 τ2 ⟨hv2, rfl⟩
  cases hv2
  refine zz_bipush (v := (-2)) dL_plays_280 (by decide) ?_
  refine zz_icmp_ne (tgt := 367) dL_plays_282 (by decide) (fun h => absurd rfl h) (fun _ => ?_)
  refine zz_aload dL_plays_285 rfl ?_
  refine zz_iconst (v := 4) dL_plays_287 (by decide) ?_
  refine zz_iconst (v := 0) dL_plays_288 (by decide) ?_
  refine zz_iconst (v := 1) dL_plays_289 (by decide) ?_
  refine zz_sipush (v := 201) dL_plays_290 (by decide) ?_
  refine zz_callSH rfl (dxIA_draw px_x 0 1 201 (x_draw_2 (r := 0) (by omega) (by decide) 1)) dL_plays_293 zw_m_L_72 wYL_done wDL_done rfl (Nat.le_of_ble_eq_true rfl) (by decide) (by omega) (by omega) rfl ?_ (fun E τ hE => by cases hE.1)
  rintro v3 τ3 ⟨hv3, rfl⟩
  cases hv3
  refine zz_bipush (v := (-2)) dL_plays_296 (by decide) ?_
  refine zz_icmp_ne (tgt := 367) dL_plays_298 (by decide) (fun h => absurd rfl h) (fun _ => ?_)
  refine zz_aload dL_plays_301 rfl ?_
  refine zz_bipush (v := 8) dL_plays_303 (by decide) ?_
  refine zz_iconst (v := 0) dL_plays_305 (by decide) ?_
  refine zz_iload dL_plays_306 rfl ?_
  refine zz_iconst (v := 0) dL_plays_308 (by decide) ?_
  refine zz_callSH rfl (dxIO_countOf px_x 0 (nI n) 0 (x_countOf_2 (r := 0) (by omega) hn (isE_nn hn))) dL_plays_309 zw_m_L_72 wYL_done wDL_done rfl (Nat.le_of_ble_eq_true rfl) (by decide) (by omega) (by omega) rfl ?_ (fun E τ hE => by cases hE.1)
  rintro v4 τ4 ⟨hv4, rfl⟩
  cases hv4
  refine zz_iconst (v := (-1)) dL_plays_312 (by decide) ?_
  refine zz_icmp_ne (tgt := 367) dL_plays_313 (by decide) (fun h => absurd rfl h) (fun _ => ?_)
  refine zz_aload dL_plays_316 rfl ?_
  refine zz_bipush (v := 9) dL_plays_318 (by decide) ?_
  refine zz_iconst (v := 0) dL_plays_320 (by decide) ?_
  refine zz_iconst (v := 0) dL_plays_321 (by decide) ?_
  refine zz_iload dL_plays_322 rfl ?_
  refine zz_iconst (v := 1) dL_plays_324 (by decide) ?_
  refine zz_iadd dL_plays_325 ?_
  refine zz_tope (y := nI (n + 1)) (nI_1 n) ?_
  refine zz_callSH rfl (dxIO_setRange px_x 0 0 (nI (n + 1)) (x_setRange_3 (r := 0) (i := 0) (by omega) (by omega) hn (isG_n1 hn) 1)) dL_plays_326 zw_m_L_72 wYL_done wDL_done rfl (Nat.le_of_ble_eq_true rfl) (by decide) (by omega) (by omega) rfl ?_ (fun E τ hE => by cases hE.1)
  rintro v5 τ5 ⟨hv5, rfl⟩
  cases hv5
  refine zz_iconst (v := (-1)) dL_plays_329 (by decide) ?_
  refine zz_icmp_ne (tgt := 367) dL_plays_330 (by decide) (fun h => absurd rfl h) (fun _ => ?_)
  refine zz_aload dL_plays_333 rfl ?_
  refine zz_bipush (v := 11) dL_plays_335 (by decide) ?_
  refine zz_iconst (v := 0) dL_plays_337 (by decide) ?_
  refine zz_iconst (v := 0) dL_plays_338 (by decide) ?_
  refine zz_iconst (v := 0) dL_plays_339 (by decide) ?_
  refine zz_callSH rfl (dxIA_beside px_x 0 0 0 (x_beside_4 (r := 0) (i := 0) (p := 0) (by omega) (by omega) (by omega) hn (by decide))) dL_plays_340 zw_m_L_72 wYL_done wDL_done rfl (Nat.le_of_ble_eq_true rfl) (by decide) (by omega) (by omega) rfl ?_ (fun E τ hE => by cases hE.1)
  rintro v6 τ6 ⟨hv6, rfl⟩
  cases hv6
  refine zz_bipush (v := (-2)) dL_plays_343 (by decide) ?_
  refine zz_icmp_ne (tgt := 367) dL_plays_345 (by decide) (fun h => absurd rfl h) (fun _ => ?_)
  refine zz_aload dL_plays_348 rfl ?_
  refine zz_bipush (v := 11) dL_plays_350 (by decide) ?_
  refine zz_iconst (v := 0) dL_plays_352 (by decide) ?_
  refine zz_iconst (v := 0) dL_plays_353 (by decide) ?_
  refine zz_iload dL_plays_354 rfl ?_
  refine zz_callSH rfl (dxIO_beside px_x 0 0 (nI n) (x_beside_3 (r := 0) (i := 0) (by omega) (by omega) hn (isE_nn hn) 4)) dL_plays_356 zw_m_L_72 wYL_done wDL_done rfl (Nat.le_of_ble_eq_true rfl) (by decide) (by omega) (by omega) rfl ?_ (fun E τ hE => by cases hE.1)
  rintro v7 τ7 ⟨hv7, rfl⟩
  cases hv7
  refine zz_iconst (v := (-1)) dL_plays_359 (by decide) ?_
  refine zz_icmp_ne (tgt := 367) dL_plays_360 (by decide) (fun h => absurd rfl h) (fun _ => ?_)
  refine zz_iconst (v := 1) dL_plays_363 (by decide) ?_
  refine zz_goto (tgt := 368) dL_plays_364 (by decide) ?_
  refine zz_zret dL_plays_368 rfl (by first | rfl | exact zB_nar _) ?_
  exact plQ_i hI
set_option maxHeartbeats 1000000 in
set_option maxRecDepth 20000 in
theorem pl_117 (hk0 : zz_k T = 0) (rc rz : Nat) (K : ∀ (R : Nat → Nat → Nat → Bool) (mk : Nat → Bool) (MB : Nat → Nat → Bool) (rho nu : Nat → Int32) (El : Nat → Int32) (Lo Hi : Nat → Nat → Int64) (BL BH : Nat → Int64) (Od : Nat → Nat → Int32) (Ls : Nat → Int32), cI n El Lo Hi BL BH R mk → zz_E mL_plays none 12 rc rz (plQ T) 253 [(6, .int 1), (5, .int (nI n)), (4, .ref 52), (0, .ref 57), (1, .ref 54), (2, .ref 55), (3, .ref 56)] [] (px El Lo Hi BL BH Od Ls (nI n) (pl MB rho nu T))) : ∀ (m i : Nat), i + m = 8 → ∀ (R : Nat → Nat → Nat → Bool) (mk : Nat → Bool) (MB : Nat → Nat → Bool) (rho nu : Nat → Int32) (El : Nat → Int32) (Lo Hi : Nat → Nat → Int64) (BL BH : Nat → Int64) (Od : Nat → Nat → Int32) (Ls : Nat → Int32), cI n El Lo Hi BL BH R mk → zz_E mL_plays none 12 (2400 * m + rc) (14400 * m + rz) (plQ T) 117 [(7, .int (nI i)), (6, .int 1), (5, .int (nI n)), (4, .ref 52), (0, .ref 57), (1, .ref 54), (2, .ref 55), (3, .ref 56)] [] (px El Lo Hi BL BH Od Ls (nI n) (pl MB rho nu T)) := by
  intro m
  induction m with
  | zero =>
    intro i hi R mk MB rho nu El Lo Hi BL BH Od Ls hI
    have hk : 8 = i := by omega
    subst hk
    refine zz_iload dL_plays_117 rfl ?_
    refine zz_bipush (v := 8) dL_plays_119 (by decide) ?_
    refine zz_icmp_ge (tgt := 253) dL_plays_121 (by decide) (fun _ => ?_) (fun h => absurd (nI_le (a := 8) (b := 8) (by omega) (by omega)) h)
    refine zz_less (rc1 := rc) (rz1 := rz) (by omega) (by omega) ?_
    refine zz_lvl (lv2 := [(6, .int 1), (5, .int (nI n)), (4, .ref 52), (0, .ref 57), (1, .ref 54), (2, .ref 55), (3, .ref 56)]) ⟨rfl, rfl, rfl, rfl, rfl, rfl, rfl, trivial⟩ ?_
    exact K _ _ _ _ _ _ _ _ _ _ _ _ hI
  | succ m ih =>
    intro i hi R mk MB rho nu El Lo Hi BL BH Od Ls hI
    have hk : i < 8 := by omega
    have hn := cI_n hI
    refine zz_iload dL_plays_117 rfl ?_
    refine zz_bipush (v := 8) dL_plays_119 (by decide) ?_
    refine zz_icmp_ge (tgt := 253) dL_plays_121 (by decide) (fun h => absurd h (nI_ge (a := i) (b := 8) (by omega) (by omega))) (fun _ => ?_)
    refine zz_iload dL_plays_124 rfl ?_
    refine zz_if_eq (tgt := 253) dL_plays_126 (by decide) (fun h => absurd h (by decide)) (fun _ => ?_)
    refine zz_aload_n dL_plays_129 rfl ?_
    refine zz_callS (c_next) dL_plays_130 zw_m_L_8 wYL_next wDL_next rfl (Nat.le_of_ble_eq_true rfl) (by decide) (by omega) (by omega) rfl ?_ (fun E τ hE => by obtain ⟨_, _, _, hE, _⟩ := hE; cases hE)
    rintro v1 τ1 ⟨m1, rho1, hm1, hv1, rfl⟩
    cases hv1
    refine zz_bipush (v := 6) dL_plays_133 (by decide) ?_
    refine zz_irem dL_plays_135 ((by decide)) ?_
    refine zz_tope (y := nI (m1 % 6)) (pk_rem (d := 6) (by omega) (by omega) (by omega)) ?_
    obtain ⟨w, hw, ew⟩ : ∃ w, w < 6 ∧ m1 % 6 = w := ⟨_, Nat.mod_lt _ (by omega), rfl⟩
    rw [ew]
    refine zz_istore dL_plays_136 (by decide) ?_
    refine zz_aload_n dL_plays_138 rfl ?_
    refine zz_callS (c_next) dL_plays_139 zw_m_L_8 wYL_next wDL_next rfl (Nat.le_of_ble_eq_true rfl) (by decide) (by omega) (by omega) rfl ?_ (fun E τ hE => by obtain ⟨_, _, _, hE, _⟩ := hE; cases hE)
    rintro v2 τ2 ⟨m2, rho2, hm2, hv2, rfl⟩
    cases hv2
    refine zz_iconst (v := 3) dL_plays_142 (by decide) ?_
    refine zz_irem dL_plays_143 ((by decide)) ?_
    refine zz_tope (y := nI (m2 % 3)) (pk_rem (d := 3) (by omega) (by omega) (by omega)) ?_
    obtain ⟨r, hr, er⟩ : ∃ r, r < 3 ∧ m2 % 3 = r := ⟨_, Nat.mod_lt _ (by omega), rfl⟩
    rw [er]
    refine zz_istore dL_plays_144 (by decide) ?_
    refine zz_iload dL_plays_146 rfl ?_
    refine zz_if_ne (tgt := 164) dL_plays_148 (by decide) (fun h148 => ?_) (fun h148 => ?_)
    · refine zz_iload dL_plays_164 rfl ?_
      refine zz_iconst (v := 1) dL_plays_166 (by decide) ?_
      refine zz_icmp_ne (tgt := 186) dL_plays_167 (by decide) (fun h167 => ?_) (fun h167 => ?_)
      · refine zz_iload dL_plays_186 rfl ?_
        refine zz_iconst (v := 2) dL_plays_188 (by decide) ?_
        refine zz_icmp_ne (tgt := 209) dL_plays_189 (by decide) (fun h189 => ?_) (fun h189 => ?_)
        · refine zz_iload dL_plays_209 rfl ?_
          refine zz_iconst (v := 3) dL_plays_211 (by decide) ?_
          refine zz_icmp_ne (tgt := 232) dL_plays_212 (by decide) (fun h212 => ?_) (fun h212 => ?_)
          · refine zz_aload dL_plays_232 rfl ?_
            refine zz_aload_n dL_plays_234 rfl ?_
            refine zz_iload dL_plays_235 rfl ?_
            refine zz_iload dL_plays_237 rfl ?_
            refine zz_aload_n dL_plays_239 rfl ?_
            refine zz_aload_n dL_plays_240 rfl ?_
            refine zz_aload_n dL_plays_241 rfl ?_
            refine zz_callS (c_isTrue (r := r) hr hk0 hI) dL_plays_242 zw_m_L_210 wYL_isTrue wDL_isTrue rfl (Nat.le_of_ble_eq_true rfl) (by decide) (by omega) (by omega) rfl ?_ (fun E τ hE => by obtain ⟨_, _, _, _, _, hE, _⟩ := hE; cases hE)
            rintro v7 τ7 ⟨R7, mk7, MB7, rho7, nu7, hv7, El7, Lo7, Hi7, BL7, BH7, Od7, Ls7, hI7, rfl⟩
            cases hv7
            refine zz_istore dL_plays_245 (by decide) ?_
            refine zz_iinc (v := nI (i + 1)) dL_plays_247 rfl (nI_1 i) (by decide) ?_
            refine zz_goto (tgt := 117) dL_plays_250 (by decide) ?_
            refine zz_less (rc1 := 2400 * m + rc) (rz1 := 14400 * m + rz) (by omega) (by omega) ?_
            refine zz_lvl (lv2 := [(7, .int (nI (i + 1))), (6, .int 1), (5, .int (nI n)), (4, .ref 52), (0, .ref 57), (1, .ref 54), (2, .ref 55), (3, .ref 56)]) ⟨rfl, rfl, rfl, rfl, rfl, rfl, rfl, rfl, trivial⟩ ?_
            first | exact ih (i + 1) (by omega) _ _ _ _ _ _ _ _ _ _ _ _ hI3 | exact ih (i + 1) (by omega) _ _ _ _ _ _ _ _ _ _ _ _ hI4 | exact ih (i + 1) (by omega) _ _ _ _ _ _ _ _ _ _ _ _ hI5 | exact ih (i + 1) (by omega) _ _ _ _ _ _ _ _ _ _ _ _ hI6 | exact ih (i + 1) (by omega) _ _ _ _ _ _ _ _ _ _ _ _ hI7
          · refine zz_aload dL_plays_215 rfl ?_
            refine zz_aload_n dL_plays_217 rfl ?_
            refine zz_iload dL_plays_218 rfl ?_
            refine zz_iload dL_plays_220 rfl ?_
            refine zz_aload_n dL_plays_222 rfl ?_
            refine zz_aload_n dL_plays_223 rfl ?_
            refine zz_callS (c_spreads (r := r) (by omega) hI) dL_plays_224 zw_m_L_207 wYL_spreads wDL_spreads rfl (Nat.le_of_ble_eq_true rfl) (by decide) (by omega) (by omega) rfl ?_ (fun E τ hE => by obtain ⟨_, _, _, _, _, hE, _⟩ := hE; cases hE)
            rintro v6 τ6 ⟨R6, mk6, MB6, rho6, nu6, hv6, El6, Lo6, Hi6, BL6, BH6, Od6, Ls6, hI6, rfl⟩
            cases hv6
            refine zz_istore dL_plays_227 (by decide) ?_
            refine zz_goto (tgt := 247) dL_plays_229 (by decide) ?_
            refine zz_iinc (v := nI (i + 1)) dL_plays_247 rfl (nI_1 i) (by decide) ?_
            refine zz_goto (tgt := 117) dL_plays_250 (by decide) ?_
            refine zz_less (rc1 := 2400 * m + rc) (rz1 := 14400 * m + rz) (by omega) (by omega) ?_
            refine zz_lvl (lv2 := [(7, .int (nI (i + 1))), (6, .int 1), (5, .int (nI n)), (4, .ref 52), (0, .ref 57), (1, .ref 54), (2, .ref 55), (3, .ref 56)]) ⟨rfl, rfl, rfl, rfl, rfl, rfl, rfl, rfl, trivial⟩ ?_
            first | exact ih (i + 1) (by omega) _ _ _ _ _ _ _ _ _ _ _ _ hI3 | exact ih (i + 1) (by omega) _ _ _ _ _ _ _ _ _ _ _ _ hI4 | exact ih (i + 1) (by omega) _ _ _ _ _ _ _ _ _ _ _ _ hI5 | exact ih (i + 1) (by omega) _ _ _ _ _ _ _ _ _ _ _ _ hI6 | exact ih (i + 1) (by omega) _ _ _ _ _ _ _ _ _ _ _ _ hI7
        · refine zz_aload dL_plays_192 rfl ?_
          refine zz_aload_n dL_plays_194 rfl ?_
          refine zz_iload dL_plays_195 rfl ?_
          refine zz_iload dL_plays_197 rfl ?_
          refine zz_aload_n dL_plays_199 rfl ?_
          refine zz_aload_n dL_plays_200 rfl ?_
          refine zz_callS (c_areRows (r := r) (by omega) hI) dL_plays_201 zw_m_L_203 wYL_areRows wDL_areRows rfl (Nat.le_of_ble_eq_true rfl) (by decide) (by omega) (by omega) rfl ?_ (fun E τ hE => by obtain ⟨_, _, _, _, _, hE, _⟩ := hE; cases hE)
          rintro v5 τ5 ⟨R5, mk5, MB5, rho5, nu5, hv5, El5, Lo5, Hi5, BL5, BH5, Od5, Ls5, hI5, rfl⟩
          cases hv5
          refine zz_istore dL_plays_204 (by decide) ?_
          refine zz_goto (tgt := 247) dL_plays_206 (by decide) ?_
          refine zz_iinc (v := nI (i + 1)) dL_plays_247 rfl (nI_1 i) (by decide) ?_
          refine zz_goto (tgt := 117) dL_plays_250 (by decide) ?_
          refine zz_less (rc1 := 2400 * m + rc) (rz1 := 14400 * m + rz) (by omega) (by omega) ?_
          refine zz_lvl (lv2 := [(7, .int (nI (i + 1))), (6, .int 1), (5, .int (nI n)), (4, .ref 52), (0, .ref 57), (1, .ref 54), (2, .ref 55), (3, .ref 56)]) ⟨rfl, rfl, rfl, rfl, rfl, rfl, rfl, rfl, trivial⟩ ?_
          first | exact ih (i + 1) (by omega) _ _ _ _ _ _ _ _ _ _ _ _ hI3 | exact ih (i + 1) (by omega) _ _ _ _ _ _ _ _ _ _ _ _ hI4 | exact ih (i + 1) (by omega) _ _ _ _ _ _ _ _ _ _ _ _ hI5 | exact ih (i + 1) (by omega) _ _ _ _ _ _ _ _ _ _ _ _ hI6 | exact ih (i + 1) (by omega) _ _ _ _ _ _ _ _ _ _ _ _ hI7
      · refine zz_aload dL_plays_170 rfl ?_
        refine zz_aload_n dL_plays_172 rfl ?_
        refine zz_iload dL_plays_173 rfl ?_
        refine zz_aload_n dL_plays_175 rfl ?_
        refine zz_aload_n dL_plays_176 rfl ?_
        refine zz_aload_n dL_plays_177 rfl ?_
        refine zz_callS (c_isAlgebra hI) dL_plays_178 zw_m_L_199 wYL_isAlgebra wDL_isAlgebra rfl (Nat.le_of_ble_eq_true rfl) (by decide) (by omega) (by omega) rfl ?_ (fun E τ hE => by obtain ⟨_, _, _, _, _, hE, _⟩ := hE; cases hE)
        rintro v4 τ4 ⟨R4, mk4, MB4, rho4, nu4, hv4, El4, Lo4, Hi4, BL4, BH4, Od4, Ls4, hI4, rfl⟩
        cases hv4
        refine zz_istore dL_plays_181 (by decide) ?_
        refine zz_goto (tgt := 247) dL_plays_183 (by decide) ?_
        refine zz_iinc (v := nI (i + 1)) dL_plays_247 rfl (nI_1 i) (by decide) ?_
        refine zz_goto (tgt := 117) dL_plays_250 (by decide) ?_
        refine zz_less (rc1 := 2400 * m + rc) (rz1 := 14400 * m + rz) (by omega) (by omega) ?_
        refine zz_lvl (lv2 := [(7, .int (nI (i + 1))), (6, .int 1), (5, .int (nI n)), (4, .ref 52), (0, .ref 57), (1, .ref 54), (2, .ref 55), (3, .ref 56)]) ⟨rfl, rfl, rfl, rfl, rfl, rfl, rfl, rfl, trivial⟩ ?_
        first | exact ih (i + 1) (by omega) _ _ _ _ _ _ _ _ _ _ _ _ hI3 | exact ih (i + 1) (by omega) _ _ _ _ _ _ _ _ _ _ _ _ hI4 | exact ih (i + 1) (by omega) _ _ _ _ _ _ _ _ _ _ _ _ hI5 | exact ih (i + 1) (by omega) _ _ _ _ _ _ _ _ _ _ _ _ hI6 | exact ih (i + 1) (by omega) _ _ _ _ _ _ _ _ _ _ _ _ hI7
    · refine zz_aload dL_plays_151 rfl ?_
      refine zz_aload_n dL_plays_153 rfl ?_
      refine zz_iload dL_plays_154 rfl ?_
      refine zz_iload dL_plays_156 rfl ?_
      refine zz_callS (c_draws (r := r) (by omega) hI) dL_plays_158 zw_m_L_195 wYL_draws wDL_draws rfl (Nat.le_of_ble_eq_true rfl) (by decide) (by omega) (by omega) rfl ?_ (fun E τ hE => by obtain ⟨_, _, hE, _⟩ := hE; cases hE)
      rintro v3 τ3 ⟨R3, rho3, hv3, El3, Lo3, Hi3, BL3, BH3, Od3, Ls3, hI3, rfl⟩
      cases hv3
      refine zz_goto (tgt := 247) dL_plays_161 (by decide) ?_
      refine zz_iinc (v := nI (i + 1)) dL_plays_247 rfl (nI_1 i) (by decide) ?_
      refine zz_goto (tgt := 117) dL_plays_250 (by decide) ?_
      refine zz_less (rc1 := 2400 * m + rc) (rz1 := 14400 * m + rz) (by omega) (by omega) ?_
      refine zz_lvl (lv2 := [(7, .int (nI (i + 1))), (6, .int 1), (5, .int (nI n)), (4, .ref 52), (0, .ref 57), (1, .ref 54), (2, .ref 55), (3, .ref 56)]) ⟨rfl, rfl, rfl, rfl, rfl, rfl, rfl, rfl, trivial⟩ ?_
      first | exact ih (i + 1) (by omega) _ _ _ _ _ _ _ _ _ _ _ _ hI3 | exact ih (i + 1) (by omega) _ _ _ _ _ _ _ _ _ _ _ _ hI4 | exact ih (i + 1) (by omega) _ _ _ _ _ _ _ _ _ _ _ _ hI5 | exact ih (i + 1) (by omega) _ _ _ _ _ _ _ _ _ _ _ _ hI6 | exact ih (i + 1) (by omega) _ _ _ _ _ _ _ _ _ _ _ _ hI7
set_option maxHeartbeats 1000000 in
set_option maxRecDepth 20000 in
theorem pl_92 (rc rz : Nat) (K : ∀ (R : Nat → Nat → Nat → Bool) (rho : Nat → Int32) (El : Nat → Int32) (Lo Hi : Nat → Nat → Int64) (BL BH : Nat → Int64) (Od : Nat → Nat → Int32) (Ls : Nat → Int32), cI n El Lo Hi BL BH R mk → zz_E mL_plays none 12 rc rz (plQ T) 114 [(6, .int 1), (5, .int (nI n)), (4, .ref 52), (0, .ref 57), (1, .ref 54), (2, .ref 55), (3, .ref 56)] [] (px El Lo Hi BL BH Od Ls (nI n) (pl MB rho nu T))) : ∀ (m i : Nat), i + m = 3 → ∀ (R : Nat → Nat → Nat → Bool) (rho : Nat → Int32) (El : Nat → Int32) (Lo Hi : Nat → Nat → Int64) (BL BH : Nat → Int64) (Od : Nat → Nat → Int32) (Ls : Nat → Int32), cI n El Lo Hi BL BH R mk → zz_E mL_plays none 12 (90 * m + rc) (540 * m + rz) (plQ T) 92 [(7, .int (nI i)), (6, .int 1), (5, .int (nI n)), (4, .ref 52), (0, .ref 57), (1, .ref 54), (2, .ref 55), (3, .ref 56)] [] (px El Lo Hi BL BH Od Ls (nI n) (pl MB rho nu T)) := by
  intro m
  induction m with
  | zero =>
    intro i hi R rho El Lo Hi BL BH Od Ls hI
    have hk : 3 = i := by omega
    subst hk
    refine zz_iload dL_plays_92 rfl ?_
    refine zz_iconst (v := 3) dL_plays_94 (by decide) ?_
    refine zz_icmp_ge (tgt := 114) dL_plays_95 (by decide) (fun _ => ?_) (fun h => absurd (nI_le (a := 3) (b := 3) (by omega) (by omega)) h)
    refine zz_less (rc1 := rc) (rz1 := rz) (by omega) (by omega) ?_
    refine zz_lvl (lv2 := [(6, .int 1), (5, .int (nI n)), (4, .ref 52), (0, .ref 57), (1, .ref 54), (2, .ref 55), (3, .ref 56)]) ⟨rfl, rfl, rfl, rfl, rfl, rfl, rfl, trivial⟩ ?_
    exact K _ _ _ _ _ _ _ _ _ hI
  | succ m ih =>
    intro i hi R rho El Lo Hi BL BH Od Ls hI
    have hk : i < 3 := by omega
    refine zz_iload dL_plays_92 rfl ?_
    refine zz_iconst (v := 3) dL_plays_94 (by decide) ?_
    refine zz_icmp_ge (tgt := 114) dL_plays_95 (by decide) (fun h => absurd h (nI_ge (a := i) (b := 3) (by omega) (by omega))) (fun _ => ?_)
    refine zz_aload dL_plays_98 rfl ?_
    refine zz_aload_n dL_plays_100 rfl ?_
    refine zz_iload dL_plays_101 rfl ?_
    refine zz_iload dL_plays_103 rfl ?_
    refine zz_callS (c_draws (r := i) (by omega) hI) dL_plays_105 zw_m_L_195 wYL_draws wDL_draws rfl (Nat.le_of_ble_eq_true rfl) (by decide) (by omega) (by omega) rfl ?_ (fun E τ hE => by obtain ⟨_, _, hE, _⟩ := hE; cases hE)
    rintro v1 τ1 ⟨R1, rho1, hv1, El1, Lo1, Hi1, BL1, BH1, Od1, Ls1, hI1, rfl⟩
    cases hv1
    refine zz_iinc (v := nI (i + 1)) dL_plays_108 rfl (nI_1 i) (by decide) ?_
    refine zz_goto (tgt := 92) dL_plays_111 (by decide) ?_
    refine zz_less (rc1 := 90 * m + rc) (rz1 := 540 * m + rz) (by omega) (by omega) ?_
    refine zz_lvl (lv2 := [(7, .int (nI (i + 1))), (6, .int 1), (5, .int (nI n)), (4, .ref 52), (0, .ref 57), (1, .ref 54), (2, .ref 55), (3, .ref 56)]) ⟨rfl, rfl, rfl, rfl, rfl, rfl, rfl, rfl, trivial⟩ ?_
    exact ih (i + 1) (by omega) _ _ _ _ _ _ _ _ _ hI1
set_option maxHeartbeats 1000000 in
set_option maxRecDepth 20000 in
theorem pl_36 (hk0 : zz_k T = 0) {e : Nat} (he1 : 1 ≤ e) (he : e ≤ 80) : zz_E mL_plays none 12 19500 117000 (plQ T) 36 [(4, .ref 52), (0, .ref 57), (1, .ref 54), (2, .ref 55), (3, .ref 56)] [.int (nI e)] (px El Lo Hi BL BH Od Ls (nI 12) (pl MB rho nu T)) := by
  have h81 : isB 81 = false := by decide
  have h0 : isB 0 = false := by decide
  refine zz_istore dL_plays_36 (by decide) ?_
  refine zz_aload dL_plays_38 rfl ?_
  refine zz_iconst (v := 5) dL_plays_40 (by decide) ?_
  refine zz_iload dL_plays_41 rfl ?_
  refine zz_iconst (v := 0) dL_plays_43 (by decide) ?_
  refine zz_iconst (v := 0) dL_plays_44 (by decide) ?_
  refine zz_callSH rfl (dv_begin px_x (nI e) 0 0 (x_begin_v (n := 12) he1 he)) dL_plays_45 zw_m_L_72 wYL_done wDL_done rfl (Nat.le_of_ble_eq_true rfl) (by decide) (by omega) (by omega) rfl ?_ (fun E τ hE => by cases hE.1)
  rintro v1 τ1 ⟨hv1, El1, Lo1, Hi1, BL1, BH1, Od1, Ls1, hI1, rfl⟩
  cases hv1
  refine zz_bipush (v := 12) dL_plays_48 (by decide) ?_
  refine zz_icmp_ne (tgt := 86) dL_plays_50 (by decide) (fun h => absurd rfl h) (fun _ => ?_)
  refine zz_aload dL_plays_53 rfl ?_
  refine zz_iconst (v := 5) dL_plays_55 (by decide) ?_
  refine zz_bipush (v := 81) dL_plays_56 (by decide) ?_
  refine zz_iconst (v := 0) dL_plays_58 (by decide) ?_
  refine zz_iconst (v := 0) dL_plays_59 (by decide) ?_
  refine zz_callSH rfl (dxIA_begin px_x 81 0 0 (x_begin_x h81)) dL_plays_60 zw_m_L_72 wYL_done wDL_done rfl (Nat.le_of_ble_eq_true rfl) (by decide) (by omega) (by omega) rfl ?_ (fun E τ hE => by cases hE.1)
  rintro v2 τ2 ⟨hv2, rfl⟩
  cases hv2
  refine zz_bipush (v := (-2)) dL_plays_63 (by decide) ?_
  refine zz_icmp_ne (tgt := 86) dL_plays_65 (by decide) (fun h => absurd rfl h) (fun _ => ?_)
  refine zz_aload dL_plays_68 rfl ?_
  refine zz_iconst (v := 5) dL_plays_70 (by decide) ?_
  refine zz_iconst (v := 0) dL_plays_71 (by decide) ?_
  refine zz_iconst (v := 0) dL_plays_72 (by decide) ?_
  refine zz_iconst (v := 0) dL_plays_73 (by decide) ?_
  refine zz_callSH rfl (dxIA_begin px_x 0 0 0 (x_begin_x h0)) dL_plays_74 zw_m_L_72 wYL_done wDL_done rfl (Nat.le_of_ble_eq_true rfl) (by decide) (by omega) (by omega) rfl ?_ (fun E τ hE => by cases hE.1)
  rintro v3 τ3 ⟨hv3, rfl⟩
  cases hv3
  refine zz_bipush (v := (-2)) dL_plays_77 (by decide) ?_
  refine zz_icmp_ne (tgt := 86) dL_plays_79 (by decide) (fun h => absurd rfl h) (fun _ => ?_)
  refine zz_iconst (v := 1) dL_plays_82 (by decide) ?_
  refine zz_goto (tgt := 87) dL_plays_83 (by decide) ?_
  refine zz_istore dL_plays_87 (by decide) ?_
  refine zz_iconst (v := 0) dL_plays_89 (by decide) ?_
  refine zz_istore dL_plays_90 (by decide) ?_
  refine zz_less (rc1 := 90 * 3 + (2400 * 8 + 7)) (rz1 := 540 * 3 + (14400 * 8 + 42)) (by omega) (by omega) ?_
  refine zz_lvl (lv2 := [(7, .int (nI 0)), (6, .int 1), (5, .int (nI e)), (4, .ref 52), (0, .ref 57), (1, .ref 54), (2, .ref 55), (3, .ref 56)]) ⟨rfl, rfl, rfl, rfl, rfl, rfl, rfl, rfl, trivial⟩ ?_
  refine pl_92 (n := e) _ _ (fun R9 rho9 El9 Lo9 Hi9 BL9 BH9 Od9 Ls9 hI9 => ?_) 3 0 (by omega) _ _ _ _ _ _ _ _ _ hI1
  refine zz_iconst (v := 0) dL_plays_114 (by decide) ?_
  refine zz_istore dL_plays_115 (by decide) ?_
  refine zz_lvl (lv2 := [(7, .int (nI 0)), (6, .int 1), (5, .int (nI e)), (4, .ref 52), (0, .ref 57), (1, .ref 54), (2, .ref 55), (3, .ref 56)]) ⟨rfl, rfl, rfl, rfl, rfl, rfl, rfl, rfl, trivial⟩ ?_
  exact pl_117 (n := e) hk0 7 42 (fun _ _ _ _ _ _ _ _ _ _ _ _ hI8 => pl_253 hI8) 8 0 (by omega) _ _ _ _ _ _ _ _ _ _ _ _ hI9
set_option maxHeartbeats 1000000 in
set_option maxRecDepth 20000 in
theorem pl_7 (hk0 : zz_k T = 0) : zz_E mL_plays none 12 19500 117000 (plQ T) 7 [(0, .ref 57), (1, .ref 54), (2, .ref 55), (3, .ref 56)] [.ref 52] (px El Lo Hi BL BH Od Ls (nI 12) (pl MB rho nu T)) := by
  refine zz_astore dL_plays_7 (by decide) ?_
  refine zz_aload_n dL_plays_9 rfl ?_
  refine zz_callS (c_next (n := 12)) dL_plays_10 zw_m_L_8 wYL_next wDL_next rfl (Nat.le_of_ble_eq_true rfl) (by decide) (by omega) (by omega) rfl ?_ (fun E τ hE => by obtain ⟨_, _, _, hE, _⟩ := hE; cases hE)
  rintro v1 τ1 ⟨m1, rho1, hm1, hv1, rfl⟩
  cases hv1
  refine zz_iconst (v := 5) dL_plays_13 (by decide) ?_
  refine zz_irem dL_plays_14 ((by decide)) ?_
  refine zz_if_ne (tgt := 29) dL_plays_15 (by decide) (fun h15 => ?_) (fun h15 => ?_)
  · refine zz_aload_n dL_plays_29 rfl ?_
    refine zz_iconst (v := 1) dL_plays_30 (by decide) ?_
    refine zz_bipush (v := 24) dL_plays_31 (by decide) ?_
    refine zz_callS (c_from (n := 12) (lo := 1) (hi := 24) (by omega) (by omega)) dL_plays_33 zw_m_L_191 wYL_from wDL_from rfl (Nat.le_of_ble_eq_true rfl) (by decide) (by omega) (by omega) rfl ?_ (fun E τ hE => by obtain ⟨_, _, _, hE, _⟩ := hE; cases hE)
    rintro v2 τ2 ⟨e2, rho2, he2, hv2, rfl⟩
    cases hv2
    refine zz_less (rc1 := 19500) (rz1 := 117000) (by omega) (by omega) ?_
    refine zz_lvl (lv2 := [(4, .ref 52), (0, .ref 57), (1, .ref 54), (2, .ref 55), (3, .ref 56)]) ⟨rfl, rfl, rfl, rfl, rfl, trivial⟩ ?_
    exact pl_36 hk0 (by omega) (by omega)
  · refine zz_aload_n dL_plays_18 rfl ?_
    refine zz_bipush (v := 60) dL_plays_19 (by decide) ?_
    refine zz_bipush (v := 80) dL_plays_21 (by decide) ?_
    refine zz_callS (c_from (n := 12) (lo := 60) (hi := 80) (by omega) (by omega)) dL_plays_23 zw_m_L_191 wYL_from wDL_from rfl (Nat.le_of_ble_eq_true rfl) (by decide) (by omega) (by omega) rfl ?_ (fun E τ hE => by obtain ⟨_, _, _, hE, _⟩ := hE; cases hE)
    rintro v2 τ2 ⟨e2, rho2, he2, hv2, rfl⟩
    cases hv2
    refine zz_goto (tgt := 36) dL_plays_26 (by decide) ?_
    refine zz_less (rc1 := 19500) (rz1 := 117000) (by omega) (by omega) ?_
    refine zz_lvl (lv2 := [(4, .ref 52), (0, .ref 57), (1, .ref 54), (2, .ref 55), (3, .ref 56)]) ⟨rfl, rfl, rfl, rfl, rfl, trivial⟩ ?_
    exact pl_36 hk0 (by omega) (by omega)
end ZYX
