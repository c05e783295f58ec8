section ZZLC
variable {L : Nat} {xs : Nat → Int32} {i rc rz : Nat} {Q : zz_Q} {σ : zz_St}
set_option maxHeartbeats 1000000 in
set_option maxRecDepth 20000 in
theorem L_begin (hi : i + 6 ≤ L) (hL : L ≤ 3072) (hJ : JJ σ) (h1 : 1 ≤ rc) (h2 : 6 ≤ rz) (K : ∀ τ, JJ τ → zz_E mL_law (some (L, xs)) 9 (rc - 1) (rz - 6) Q 2755 (LV i) [] τ) : zz_E mL_law (some (L, xs)) 9 rc rz Q 200 (LV i) [] σ := by
  obtain ⟨k, P1, hC, hM⟩ := a_begin hJ (xs (i + 1))
  refine zz_aload_n dL_law_200 rfl ?_
  refine zz_aload_n dL_law_201 rfl ?_
  refine zz_iload dL_law_202 rfl ?_
  refine zz_arg (j := 1) dL_law_204 dL_law_205 dL_law_206 (v := 1) (by decide) (ad_1 i) (by omega) hL ?_
  refine zz_aload_n dL_law_207 rfl ?_
  refine zz_callSH rfl hC dL_law_208 zw_m_L_136 wYL_begin wDL_begin rfl (Nat.le_of_ble_eq_true rfl) (by decide) h1 h2 rfl (fun v9 τ9 h9 => ?_) (fun E9 τ9 h9 => by cases h9.1)
  obtain ⟨hv, hp⟩ := h9
  cases hv
  obtain ⟨⟨fs, h54⟩, dm, Q2, hdm, hC2, hQ2⟩ := hM τ9 hp
  refine zz_istore dL_law_211 (by decide) ?_
  refine zz_aload_n dL_law_213 rfl ?_
  refine zz_aload_n dL_law_214 rfl ?_
  refine zz_iload dL_law_215 rfl ?_
  refine zz_arg (j := 1) dL_law_217 dL_law_218 dL_law_219 (v := 1) (by decide) (ad_1 i) (by omega) hL ?_
  refine zz_callV (ci := 5) hC2 dL_law_220 zw_m_L_141 wYX5_begin wDX5_begin rfl (by omega) h54 rfl (Nat.le_of_ble_eq_true rfl) (by omega) (Nat.zero_le _) (Nat.zero_le _) rfl (fun v8 τ8 h8 => ?_) (fun E8 τ8 h8 => by obtain ⟨b, hb, _⟩ := hQ2 _ _ h8; cases hb)
  obtain ⟨b, hb, hT, hJK⟩ := hQ2 _ _ h8
  cases hb
  obtain ⟨y, rfl⟩ := hT
  refine zz_istore dL_law_223 (by decide) ?_
  have hJ8 := JK_J hJK
  obtain ⟨⟨n8, MB8, MI8, T8, rfl⟩, ⟨o8, h66, hV⟩, ⟨w8, h67, hY⟩⟩ := JK_at hJK
  refine zz_aload_n dL_law_225 rfl ?_
  refine zz_callV1 (ci := 5) m_thrown dL_law_226 zw_m_L_142 wYX5_thrown wDX5_thrown rfl (by omega) pm_o rfl (Nat.le_of_ble_eq_true rfl) (by decide) rfl ?_
  refine zz_iload dL_law_229 rfl ?_
  refine zz_icmp_eq (tgt := 236) dL_law_231 (by decide) (fun _ => ?_) (fun h => absurd rfl h)
  refine zz_iload dL_law_236 rfl ?_
  refine zz_if_ne (tgt := 253) dL_law_238 (by decide) (fun _ => ?_) (fun hk => ?_)
  · refine zz_goto (tgt := 2755) dL_law_253 (by decide) ?_
    refine zz_lvs (lv2 := LV i) (fun q hq => by simp only [List.mem_cons, List.not_mem_nil, or_false] at hq; rcases hq with rfl | rfl | rfl | rfl | rfl | rfl <;> simp [zz_up1, zz_up2, Value.category]) ?_
    exact zz_less (by omega) (by omega) (K _ hJ8)
  · refine zz_aload_n dL_law_241 rfl ?_
    refine zz_iconst (v := 0) dL_law_242 (by decide) ?_
    refine zz_lald dL_law_243 (by omega) h66 (vp_in_nI (n := 0) (N := 1) (by omega) (by omega)) ?_
    obtain ⟨y2, e1, e2⟩ := hV hk
    cases e1
    refine zz_iload dL_law_244 rfl ?_
    refine zz_i2l dL_law_246 rfl ?_
    refine zz_lcmp dL_law_247 ?_
    refine zz_if_eq (tgt := 253) dL_law_248 (by decide) (fun _ => ?_) (fun h => absurd (cmp_e.mpr e2) h)
    refine zz_goto (tgt := 2755) dL_law_253 (by decide) ?_
    refine zz_lvs (lv2 := LV i) (fun q hq => by simp only [List.mem_cons, List.not_mem_nil, or_false] at hq; rcases hq with rfl | rfl | rfl | rfl | rfl | rfl <;> simp [zz_up1, zz_up2, Value.category]) ?_
    exact zz_less (by omega) (by omega) (K _ hJ8)
set_option maxHeartbeats 1000000 in
set_option maxRecDepth 20000 in
theorem L_set (hi : i + 6 ≤ L) (hL : L ≤ 3072) (hJ : JJ σ) (h1 : 1 ≤ rc) (h2 : 6 ≤ rz) (K : ∀ τ, JJ τ → zz_E mL_law (some (L, xs)) 9 (rc - 1) (rz - 6) Q 2755 (LV i) [] τ) : zz_E mL_law (some (L, xs)) 9 rc rz Q 256 (LV i) [] σ := by
  obtain ⟨k, P1, hC, hM⟩ := a_set hJ (xs (i + 1)) (xs (i + 2)) (xs (i + 3)) (decide (¬ xs (i + 4) = 0))
  refine zz_aload_n dL_law_256 rfl ?_
  refine zz_aload_n dL_law_257 rfl ?_
  refine zz_iload dL_law_258 rfl ?_
  refine zz_arg (j := 1) dL_law_260 dL_law_261 dL_law_262 (v := 1) (by decide) (ad_1 i) (by omega) hL ?_
  refine zz_aload_n dL_law_263 rfl ?_
  refine zz_iload dL_law_264 rfl ?_
  refine zz_arg (j := 2) dL_law_266 dL_law_267 dL_law_268 (v := 2) (by decide) (ad_2 i) (by omega) hL ?_
  refine zz_aload_n dL_law_269 rfl ?_
  refine zz_iload dL_law_270 rfl ?_
  refine zz_arg (j := 3) dL_law_272 dL_law_273 dL_law_274 (v := 3) (by decide) (ad_3 i) (by omega) hL ?_
  refine zz_aload_n dL_law_275 rfl ?_
  refine zz_iload dL_law_276 rfl ?_
  refine zz_arg (j := 4) dL_law_278 dL_law_279 dL_law_280 (v := 4) (by decide) (ad_4 i) (by omega) hL ?_
  refine zz_nz dL_law_281 dL_law_284 dL_law_285 dL_law_288 ?_
  refine zz_aload_n dL_law_289 rfl ?_
  refine zz_callSH rfl hC dL_law_290 zw_m_L_146 wYL_set wDL_set rfl (Nat.le_of_ble_eq_true rfl) (by decide) h1 h2 rfl (fun v9 τ9 h9 => ?_) (fun E9 τ9 h9 => by cases h9.1)
  obtain ⟨hv, hp⟩ := h9
  cases hv
  obtain ⟨⟨fs, h54⟩, dm, Q2, hdm, hC2, hQ2⟩ := hM τ9 hp
  refine zz_istore dL_law_293 (by decide) ?_
  refine zz_aload_n dL_law_295 rfl ?_
  refine zz_aload_n dL_law_296 rfl ?_
  refine zz_iload dL_law_297 rfl ?_
  refine zz_arg (j := 1) dL_law_299 dL_law_300 dL_law_301 (v := 1) (by decide) (ad_1 i) (by omega) hL ?_
  refine zz_aload_n dL_law_302 rfl ?_
  refine zz_iload dL_law_303 rfl ?_
  refine zz_arg (j := 2) dL_law_305 dL_law_306 dL_law_307 (v := 2) (by decide) (ad_2 i) (by omega) hL ?_
  refine zz_aload_n dL_law_308 rfl ?_
  refine zz_iload dL_law_309 rfl ?_
  refine zz_arg (j := 3) dL_law_311 dL_law_312 dL_law_313 (v := 3) (by decide) (ad_3 i) (by omega) hL ?_
  refine zz_aload_n dL_law_314 rfl ?_
  refine zz_iload dL_law_315 rfl ?_
  refine zz_arg (j := 4) dL_law_317 dL_law_318 dL_law_319 (v := 4) (by decide) (ad_4 i) (by omega) hL ?_
  refine zz_nz dL_law_320 dL_law_323 dL_law_324 dL_law_327 ?_
  refine zz_callV (ci := 5) hC2 dL_law_328 zw_m_L_149 wYX5_set wDX5_set rfl (by omega) h54 rfl (Nat.le_of_ble_eq_true rfl) (by omega) (Nat.zero_le _) (Nat.zero_le _) rfl (fun v8 τ8 h8 => ?_) (fun E8 τ8 h8 => by obtain ⟨b, hb, _⟩ := hQ2 _ _ h8; cases hb)
  obtain ⟨b, hb, hT, hJK⟩ := hQ2 _ _ h8
  cases hb
  obtain ⟨y, rfl⟩ := hT
  refine zz_istore dL_law_331 (by decide) ?_
  have hJ8 := JK_J hJK
  obtain ⟨⟨n8, MB8, MI8, T8, rfl⟩, ⟨o8, h66, hV⟩, ⟨w8, h67, hY⟩⟩ := JK_at hJK
  refine zz_aload_n dL_law_333 rfl ?_
  refine zz_callV1 (ci := 5) m_thrown dL_law_334 zw_m_L_142 wYX5_thrown wDX5_thrown rfl (by omega) pm_o rfl (Nat.le_of_ble_eq_true rfl) (by decide) rfl ?_
  refine zz_iload dL_law_337 rfl ?_
  refine zz_icmp_eq (tgt := 344) dL_law_339 (by decide) (fun _ => ?_) (fun h => absurd rfl h)
  refine zz_iload dL_law_344 rfl ?_
  refine zz_if_ne (tgt := 368) dL_law_346 (by decide) (fun _ => ?_) (fun hk => ?_)
  · refine zz_goto (tgt := 2755) dL_law_368 (by decide) ?_
    refine zz_lvs (lv2 := LV i) (fun q hq => by simp only [List.mem_cons, List.not_mem_nil, or_false] at hq; rcases hq with rfl | rfl | rfl | rfl | rfl | rfl <;> simp [zz_up1, zz_up2, Value.category]) ?_
    exact zz_less (by omega) (by omega) (K _ hJ8)
  · refine zz_aload_n dL_law_349 rfl ?_
    refine zz_iconst (v := 0) dL_law_350 (by decide) ?_
    refine zz_lald dL_law_351 (by omega) h66 (vp_in_nI (n := 0) (N := 1) (by omega) (by omega)) ?_
    obtain ⟨y2, e1, e2⟩ := hV hk
    have e3 : y = y2 := zB_inj.mp (by injection e1)
    subst e3
    refine zz_iload dL_law_352 rfl ?_
    refine zz_nzL dL_law_354 dL_law_357 dL_law_358 dL_law_361 ?_
    refine zz_lcmp dL_law_362 ?_
    refine zz_if_eq (tgt := 368) dL_law_363 (by decide) (fun _ => ?_) (fun h => absurd (cmp_e.mpr e2) h)
    refine zz_goto (tgt := 2755) dL_law_368 (by decide) ?_
    refine zz_lvs (lv2 := LV i) (fun q hq => by simp only [List.mem_cons, List.not_mem_nil, or_false] at hq; rcases hq with rfl | rfl | rfl | rfl | rfl | rfl <;> simp [zz_up1, zz_up2, Value.category]) ?_
    exact zz_less (by omega) (by omega) (K _ hJ8)
set_option maxHeartbeats 1000000 in
set_option maxRecDepth 20000 in
theorem L_setRange (hi : i + 6 ≤ L) (hL : L ≤ 3072) (hJ : JJ σ) (h1 : 1 ≤ rc) (h2 : 6 ≤ rz) (K : ∀ τ, JJ τ → zz_E mL_law (some (L, xs)) 9 (rc - 1) (rz - 6) Q 2755 (LV i) [] τ) : zz_E mL_law (some (L, xs)) 9 rc rz Q 371 (LV i) [] σ := by
  obtain ⟨k, P1, hC, hM⟩ := a_setRange hJ (xs (i + 1)) (xs (i + 2)) (xs (i + 3)) (xs (i + 4)) (decide (¬ xs (i + 5) = 0))
  refine zz_aload_n dL_law_371 rfl ?_
  refine zz_aload_n dL_law_372 rfl ?_
  refine zz_iload dL_law_373 rfl ?_
  refine zz_arg (j := 1) dL_law_375 dL_law_376 dL_law_377 (v := 1) (by decide) (ad_1 i) (by omega) hL ?_
  refine zz_aload_n dL_law_378 rfl ?_
  refine zz_iload dL_law_379 rfl ?_
  refine zz_arg (j := 2) dL_law_381 dL_law_382 dL_law_383 (v := 2) (by decide) (ad_2 i) (by omega) hL ?_
  refine zz_aload_n dL_law_384 rfl ?_
  refine zz_iload dL_law_385 rfl ?_
  refine zz_arg (j := 3) dL_law_387 dL_law_388 dL_law_389 (v := 3) (by decide) (ad_3 i) (by omega) hL ?_
  refine zz_aload_n dL_law_390 rfl ?_
  refine zz_iload dL_law_391 rfl ?_
  refine zz_arg (j := 4) dL_law_393 dL_law_394 dL_law_395 (v := 4) (by decide) (ad_4 i) (by omega) hL ?_
  refine zz_aload_n dL_law_396 rfl ?_
  refine zz_iload dL_law_397 rfl ?_
  refine zz_arg (j := 5) dL_law_399 dL_law_400 dL_law_401 (v := 5) (by decide) (ad_5 i) (by omega) hL ?_
  refine zz_nz dL_law_402 dL_law_405 dL_law_406 dL_law_409 ?_
  refine zz_aload_n dL_law_410 rfl ?_
  refine zz_callSH rfl hC dL_law_411 zw_m_L_150 wYL_setRange wDL_setRange rfl (Nat.le_of_ble_eq_true rfl) (by decide) h1 h2 rfl (fun v9 τ9 h9 => ?_) (fun E9 τ9 h9 => by cases h9.1)
  obtain ⟨hv, hp⟩ := h9
  cases hv
  obtain ⟨⟨fs, h54⟩, dm, Q2, hdm, hC2, hQ2⟩ := hM τ9 hp
  refine zz_istore dL_law_414 (by decide) ?_
  refine zz_aload_n dL_law_416 rfl ?_
  refine zz_aload_n dL_law_417 rfl ?_
  refine zz_iload dL_law_418 rfl ?_
  refine zz_arg (j := 1) dL_law_420 dL_law_421 dL_law_422 (v := 1) (by decide) (ad_1 i) (by omega) hL ?_
  refine zz_aload_n dL_law_423 rfl ?_
  refine zz_iload dL_law_424 rfl ?_
  refine zz_arg (j := 2) dL_law_426 dL_law_427 dL_law_428 (v := 2) (by decide) (ad_2 i) (by omega) hL ?_
  refine zz_aload_n dL_law_429 rfl ?_
  refine zz_iload dL_law_430 rfl ?_
  refine zz_arg (j := 3) dL_law_432 dL_law_433 dL_law_434 (v := 3) (by decide) (ad_3 i) (by omega) hL ?_
  refine zz_aload_n dL_law_435 rfl ?_
  refine zz_iload dL_law_436 rfl ?_
  refine zz_arg (j := 4) dL_law_438 dL_law_439 dL_law_440 (v := 4) (by decide) (ad_4 i) (by omega) hL ?_
  refine zz_aload_n dL_law_441 rfl ?_
  refine zz_iload dL_law_442 rfl ?_
  refine zz_arg (j := 5) dL_law_444 dL_law_445 dL_law_446 (v := 5) (by decide) (ad_5 i) (by omega) hL ?_
  refine zz_nz dL_law_447 dL_law_450 dL_law_451 dL_law_454 ?_
  refine zz_callV (ci := 5) hC2 dL_law_455 zw_m_L_153 wYX5_setRange wDX5_setRange rfl (by omega) h54 rfl (Nat.le_of_ble_eq_true rfl) (by omega) (Nat.zero_le _) (Nat.zero_le _) rfl (fun v8 τ8 h8 => ?_) (fun E8 τ8 h8 => by obtain ⟨b, hb, _⟩ := hQ2 _ _ h8; cases hb)
  obtain ⟨b, hb, hT, hJK⟩ := hQ2 _ _ h8
  cases hb
  obtain ⟨y, rfl⟩ := hT
  refine zz_istore dL_law_458 (by decide) ?_
  have hJ8 := JK_J hJK
  obtain ⟨⟨n8, MB8, MI8, T8, rfl⟩, ⟨o8, h66, hV⟩, ⟨w8, h67, hY⟩⟩ := JK_at hJK
  refine zz_aload_n dL_law_460 rfl ?_
  refine zz_callV1 (ci := 5) m_thrown dL_law_461 zw_m_L_142 wYX5_thrown wDX5_thrown rfl (by omega) pm_o rfl (Nat.le_of_ble_eq_true rfl) (by decide) rfl ?_
  refine zz_iload dL_law_464 rfl ?_
  refine zz_icmp_eq (tgt := 471) dL_law_466 (by decide) (fun _ => ?_) (fun h => absurd rfl h)
  refine zz_iload dL_law_471 rfl ?_
  refine zz_if_ne (tgt := 488) dL_law_473 (by decide) (fun _ => ?_) (fun hk => ?_)
  · refine zz_goto (tgt := 2755) dL_law_488 (by decide) ?_
    refine zz_lvs (lv2 := LV i) (fun q hq => by simp only [List.mem_cons, List.not_mem_nil, or_false] at hq; rcases hq with rfl | rfl | rfl | rfl | rfl | rfl <;> simp [zz_up1, zz_up2, Value.category]) ?_
    exact zz_less (by omega) (by omega) (K _ hJ8)
  · refine zz_aload_n dL_law_476 rfl ?_
    refine zz_iconst (v := 0) dL_law_477 (by decide) ?_
    refine zz_lald dL_law_478 (by omega) h66 (vp_in_nI (n := 0) (N := 1) (by omega) (by omega)) ?_
    obtain ⟨y2, e1, e2⟩ := hV hk
    cases e1
    refine zz_iload dL_law_479 rfl ?_
    refine zz_i2l dL_law_481 rfl ?_
    refine zz_lcmp dL_law_482 ?_
    refine zz_if_eq (tgt := 488) dL_law_483 (by decide) (fun _ => ?_) (fun h => absurd (cmp_e.mpr e2) h)
    refine zz_goto (tgt := 2755) dL_law_488 (by decide) ?_
    refine zz_lvs (lv2 := LV i) (fun q hq => by simp only [List.mem_cons, List.not_mem_nil, or_false] at hq; rcases hq with rfl | rfl | rfl | rfl | rfl | rfl <;> simp [zz_up1, zz_up2, Value.category]) ?_
    exact zz_less (by omega) (by omega) (K _ hJ8)
set_option maxHeartbeats 1000000 in
set_option maxRecDepth 20000 in
theorem L_flipRange (hi : i + 6 ≤ L) (hL : L ≤ 3072) (hJ : JJ σ) (h1 : 1 ≤ rc) (h2 : 6 ≤ rz) (K : ∀ τ, JJ τ → zz_E mL_law (some (L, xs)) 9 (rc - 1) (rz - 6) Q 2755 (LV i) [] τ) : zz_E mL_law (some (L, xs)) 9 rc rz Q 491 (LV i) [] σ := by
  obtain ⟨k, P1, hC, hM⟩ := a_flipRange hJ (xs (i + 1)) (xs (i + 2)) (xs (i + 3)) (xs (i + 4))
  refine zz_aload_n dL_law_491 rfl ?_
  refine zz_aload_n dL_law_492 rfl ?_
  refine zz_iload dL_law_493 rfl ?_
  refine zz_arg (j := 1) dL_law_495 dL_law_496 dL_law_497 (v := 1) (by decide) (ad_1 i) (by omega) hL ?_
  refine zz_aload_n dL_law_498 rfl ?_
  refine zz_iload dL_law_499 rfl ?_
  refine zz_arg (j := 2) dL_law_501 dL_law_502 dL_law_503 (v := 2) (by decide) (ad_2 i) (by omega) hL ?_
  refine zz_aload_n dL_law_504 rfl ?_
  refine zz_iload dL_law_505 rfl ?_
  refine zz_arg (j := 3) dL_law_507 dL_law_508 dL_law_509 (v := 3) (by decide) (ad_3 i) (by omega) hL ?_
  refine zz_aload_n dL_law_510 rfl ?_
  refine zz_iload dL_law_511 rfl ?_
  refine zz_arg (j := 4) dL_law_513 dL_law_514 dL_law_515 (v := 4) (by decide) (ad_4 i) (by omega) hL ?_
  refine zz_aload_n dL_law_516 rfl ?_
  refine zz_callSH rfl hC dL_law_517 zw_m_L_154 wYL_flipRange wDL_flipRange rfl (Nat.le_of_ble_eq_true rfl) (by decide) h1 h2 rfl (fun v9 τ9 h9 => ?_) (fun E9 τ9 h9 => by cases h9.1)
  obtain ⟨hv, hp⟩ := h9
  cases hv
  obtain ⟨⟨fs, h54⟩, dm, Q2, hdm, hC2, hQ2⟩ := hM τ9 hp
  refine zz_istore dL_law_520 (by decide) ?_
  refine zz_aload_n dL_law_522 rfl ?_
  refine zz_aload_n dL_law_523 rfl ?_
  refine zz_iload dL_law_524 rfl ?_
  refine zz_arg (j := 1) dL_law_526 dL_law_527 dL_law_528 (v := 1) (by decide) (ad_1 i) (by omega) hL ?_
  refine zz_aload_n dL_law_529 rfl ?_
  refine zz_iload dL_law_530 rfl ?_
  refine zz_arg (j := 2) dL_law_532 dL_law_533 dL_law_534 (v := 2) (by decide) (ad_2 i) (by omega) hL ?_
  refine zz_aload_n dL_law_535 rfl ?_
  refine zz_iload dL_law_536 rfl ?_
  refine zz_arg (j := 3) dL_law_538 dL_law_539 dL_law_540 (v := 3) (by decide) (ad_3 i) (by omega) hL ?_
  refine zz_aload_n dL_law_541 rfl ?_
  refine zz_iload dL_law_542 rfl ?_
  refine zz_arg (j := 4) dL_law_544 dL_law_545 dL_law_546 (v := 4) (by decide) (ad_4 i) (by omega) hL ?_
  refine zz_callV (ci := 5) hC2 dL_law_547 zw_m_L_157 wYX5_flipRange wDX5_flipRange rfl (by omega) h54 rfl (Nat.le_of_ble_eq_true rfl) (by omega) (Nat.zero_le _) (Nat.zero_le _) rfl (fun v8 τ8 h8 => ?_) (fun E8 τ8 h8 => by obtain ⟨b, hb, _⟩ := hQ2 _ _ h8; cases hb)
  obtain ⟨b, hb, hT, hJK⟩ := hQ2 _ _ h8
  cases hb
  obtain ⟨y, rfl⟩ := hT
  refine zz_istore dL_law_550 (by decide) ?_
  have hJ8 := JK_J hJK
  obtain ⟨⟨n8, MB8, MI8, T8, rfl⟩, ⟨o8, h66, hV⟩, ⟨w8, h67, hY⟩⟩ := JK_at hJK
  refine zz_aload_n dL_law_552 rfl ?_
  refine zz_callV1 (ci := 5) m_thrown dL_law_553 zw_m_L_142 wYX5_thrown wDX5_thrown rfl (by omega) pm_o rfl (Nat.le_of_ble_eq_true rfl) (by decide) rfl ?_
  refine zz_iload dL_law_556 rfl ?_
  refine zz_icmp_eq (tgt := 563) dL_law_558 (by decide) (fun _ => ?_) (fun h => absurd rfl h)
  refine zz_iload dL_law_563 rfl ?_
  refine zz_if_ne (tgt := 580) dL_law_565 (by decide) (fun _ => ?_) (fun hk => ?_)
  · refine zz_goto (tgt := 2755) dL_law_580 (by decide) ?_
    refine zz_lvs (lv2 := LV i) (fun q hq => by simp only [List.mem_cons, List.not_mem_nil, or_false] at hq; rcases hq with rfl | rfl | rfl | rfl | rfl | rfl <;> simp [zz_up1, zz_up2, Value.category]) ?_
    exact zz_less (by omega) (by omega) (K _ hJ8)
  · refine zz_aload_n dL_law_568 rfl ?_
    refine zz_iconst (v := 0) dL_law_569 (by decide) ?_
    refine zz_lald dL_law_570 (by omega) h66 (vp_in_nI (n := 0) (N := 1) (by omega) (by omega)) ?_
    obtain ⟨y2, e1, e2⟩ := hV hk
    cases e1
    refine zz_iload dL_law_571 rfl ?_
    refine zz_i2l dL_law_573 rfl ?_
    refine zz_lcmp dL_law_574 ?_
    refine zz_if_eq (tgt := 580) dL_law_575 (by decide) (fun _ => ?_) (fun h => absurd (cmp_e.mpr e2) h)
    refine zz_goto (tgt := 2755) dL_law_580 (by decide) ?_
    refine zz_lvs (lv2 := LV i) (fun q hq => by simp only [List.mem_cons, List.not_mem_nil, or_false] at hq; rcases hq with rfl | rfl | rfl | rfl | rfl | rfl <;> simp [zz_up1, zz_up2, Value.category]) ?_
    exact zz_less (by omega) (by omega) (K _ hJ8)
set_option maxHeartbeats 1000000 in
set_option maxRecDepth 20000 in
theorem L_setRow (hi : i + 6 ≤ L) (hL : L ≤ 3072) (hJ : JJ σ) (h1 : 1 ≤ rc) (h2 : 6 ≤ rz) (K : ∀ τ, JJ τ → zz_E mL_law (some (L, xs)) 9 (rc - 1) (rz - 6) Q 2755 (LV i) [] τ) : zz_E mL_law (some (L, xs)) 9 rc rz Q 583 (LV i) [] σ := by
  obtain ⟨k, P1, hC, hM⟩ := a_setRow hJ (xs (i + 1)) (xs (i + 2)) ((xs (i + 3)).toInt64 <<< ((32 : Int32).toInt64 &&& 63) ||| ((xs (i + 4)).toInt64 &&& 4294967295))
  refine zz_aload_n dL_law_583 rfl ?_
  refine zz_aload_n dL_law_584 rfl ?_
  refine zz_iload dL_law_585 rfl ?_
  refine zz_arg (j := 1) dL_law_587 dL_law_588 dL_law_589 (v := 1) (by decide) (ad_1 i) (by omega) hL ?_
  refine zz_aload_n dL_law_590 rfl ?_
  refine zz_iload dL_law_591 rfl ?_
  refine zz_arg (j := 2) dL_law_593 dL_law_594 dL_law_595 (v := 2) (by decide) (ad_2 i) (by omega) hL ?_
  refine zz_aload_n dL_law_596 rfl ?_
  refine zz_iload dL_law_597 rfl ?_
  refine zz_arg (j := 3) dL_law_599 dL_law_600 dL_law_601 (v := 3) (by decide) (ad_3 i) (by omega) hL ?_
  refine zz_i2l dL_law_602 rfl ?_
  refine zz_bipush (v := 32) dL_law_603 (by decide) ?_
  refine zz_lshl dL_law_605 rfl ?_
  refine zz_aload_n dL_law_606 rfl ?_
  refine zz_iload dL_law_607 rfl ?_
  refine zz_arg (j := 4) dL_law_609 dL_law_610 dL_law_611 (v := 4) (by decide) (ad_4 i) (by omega) hL ?_
  refine zz_i2l dL_law_612 rfl ?_
  refine zz_ldc2 dL_law_613 zw_k_L_158 ?_
  refine zz_land dL_law_616 ?_
  refine zz_lor dL_law_617 ?_
  refine zz_aload_n dL_law_618 rfl ?_
  refine zz_callSH rfl hC dL_law_619 zw_m_L_160 wYL_setRow wDL_setRow rfl (Nat.le_of_ble_eq_true rfl) (by decide) h1 h2 rfl (fun v9 τ9 h9 => ?_) (fun E9 τ9 h9 => by cases h9.1)
  obtain ⟨hv, hp⟩ := h9
  cases hv
  obtain ⟨⟨fs, h54⟩, dm, Q2, hdm, hC2, hQ2⟩ := hM τ9 hp
  refine zz_istore dL_law_622 (by decide) ?_
  refine zz_aload_n dL_law_624 rfl ?_
  refine zz_aload_n dL_law_625 rfl ?_
  refine zz_iload dL_law_626 rfl ?_
  refine zz_arg (j := 1) dL_law_628 dL_law_629 dL_law_630 (v := 1) (by decide) (ad_1 i) (by omega) hL ?_
  refine zz_aload_n dL_law_631 rfl ?_
  refine zz_iload dL_law_632 rfl ?_
  refine zz_arg (j := 2) dL_law_634 dL_law_635 dL_law_636 (v := 2) (by decide) (ad_2 i) (by omega) hL ?_
  refine zz_aload_n dL_law_637 rfl ?_
  refine zz_iload dL_law_638 rfl ?_
  refine zz_arg (j := 3) dL_law_640 dL_law_641 dL_law_642 (v := 3) (by decide) (ad_3 i) (by omega) hL ?_
  refine zz_i2l dL_law_643 rfl ?_
  refine zz_bipush (v := 32) dL_law_644 (by decide) ?_
  refine zz_lshl dL_law_646 rfl ?_
  refine zz_aload_n dL_law_647 rfl ?_
  refine zz_iload dL_law_648 rfl ?_
  refine zz_arg (j := 4) dL_law_650 dL_law_651 dL_law_652 (v := 4) (by decide) (ad_4 i) (by omega) hL ?_
  refine zz_i2l dL_law_653 rfl ?_
  refine zz_ldc2 dL_law_654 zw_k_L_158 ?_
  refine zz_land dL_law_657 ?_
  refine zz_lor dL_law_658 ?_
  refine zz_callV (ci := 5) hC2 dL_law_659 zw_m_L_163 wYX5_setRow wDX5_setRow rfl (by omega) h54 rfl (Nat.le_of_ble_eq_true rfl) (by omega) (Nat.zero_le _) (Nat.zero_le _) rfl (fun v8 τ8 h8 => ?_) (fun E8 τ8 h8 => by obtain ⟨b, hb, _⟩ := hQ2 _ _ h8; cases hb)
  obtain ⟨b, hb, hT, hJK⟩ := hQ2 _ _ h8
  cases hb
  obtain ⟨y, rfl⟩ := hT
  refine zz_istore dL_law_662 (by decide) ?_
  have hJ8 := JK_J hJK
  obtain ⟨⟨n8, MB8, MI8, T8, rfl⟩, ⟨o8, h66, hV⟩, ⟨w8, h67, hY⟩⟩ := JK_at hJK
  refine zz_aload_n dL_law_664 rfl ?_
  refine zz_callV1 (ci := 5) m_thrown dL_law_665 zw_m_L_142 wYX5_thrown wDX5_thrown rfl (by omega) pm_o rfl (Nat.le_of_ble_eq_true rfl) (by decide) rfl ?_
  refine zz_iload dL_law_668 rfl ?_
  refine zz_icmp_eq (tgt := 675) dL_law_670 (by decide) (fun _ => ?_) (fun h => absurd rfl h)
  refine zz_iload dL_law_675 rfl ?_
  refine zz_if_ne (tgt := 692) dL_law_677 (by decide) (fun _ => ?_) (fun hk => ?_)
  · refine zz_goto (tgt := 2755) dL_law_692 (by decide) ?_
    refine zz_lvs (lv2 := LV i) (fun q hq => by simp only [List.mem_cons, List.not_mem_nil, or_false] at hq; rcases hq with rfl | rfl | rfl | rfl | rfl | rfl <;> simp [zz_up1, zz_up2, Value.category]) ?_
    exact zz_less (by omega) (by omega) (K _ hJ8)
  · refine zz_aload_n dL_law_680 rfl ?_
    refine zz_iconst (v := 0) dL_law_681 (by decide) ?_
    refine zz_lald dL_law_682 (by omega) h66 (vp_in_nI (n := 0) (N := 1) (by omega) (by omega)) ?_
    obtain ⟨y2, e1, e2⟩ := hV hk
    cases e1
    refine zz_iload dL_law_683 rfl ?_
    refine zz_i2l dL_law_685 rfl ?_
    refine zz_lcmp dL_law_686 ?_
    refine zz_if_eq (tgt := 692) dL_law_687 (by decide) (fun _ => ?_) (fun h => absurd (cmp_e.mpr e2) h)
    refine zz_goto (tgt := 2755) dL_law_692 (by decide) ?_
    refine zz_lvs (lv2 := LV i) (fun q hq => by simp only [List.mem_cons, List.not_mem_nil, or_false] at hq; rcases hq with rfl | rfl | rfl | rfl | rfl | rfl <;> simp [zz_up1, zz_up2, Value.category]) ?_
    exact zz_less (by omega) (by omega) (K _ hJ8)
set_option maxHeartbeats 1000000 in
set_option maxRecDepth 20000 in
theorem L_chain (hi : i + 6 ≤ L) (hL : L ≤ 3072) (hJ : JJ σ) (h1 : 1 ≤ rc) (h2 : 6 ≤ rz) (K : ∀ τ, JJ τ → zz_E mL_law (some (L, xs)) 9 (rc - 1) (rz - 6) Q 2755 (LV i) [] τ) : zz_E mL_law (some (L, xs)) 9 rc rz Q 695 (LV i) [] σ := by
  obtain ⟨k, P1, hC, hM⟩ := a_chain hJ (xs (i + 1))
  refine zz_aload_n dL_law_695 rfl ?_
  refine zz_aload_n dL_law_696 rfl ?_
  refine zz_iload dL_law_697 rfl ?_
  refine zz_arg (j := 1) dL_law_699 dL_law_700 dL_law_701 (v := 1) (by decide) (ad_1 i) (by omega) hL ?_
  refine zz_aload_n dL_law_702 rfl ?_
  refine zz_callSH rfl hC dL_law_703 zw_m_L_164 wYL_chain wDL_chain rfl (Nat.le_of_ble_eq_true rfl) (by decide) h1 h2 rfl (fun v9 τ9 h9 => ?_) (fun E9 τ9 h9 => by cases h9.1)
  obtain ⟨hv, hp⟩ := h9
  cases hv
  obtain ⟨⟨fs, h54⟩, dm, Q2, hdm, hC2, hQ2⟩ := hM τ9 hp
  refine zz_istore dL_law_706 (by decide) ?_
  refine zz_aload_n dL_law_708 rfl ?_
  refine zz_aload_n dL_law_709 rfl ?_
  refine zz_iload dL_law_710 rfl ?_
  refine zz_arg (j := 1) dL_law_712 dL_law_713 dL_law_714 (v := 1) (by decide) (ad_1 i) (by omega) hL ?_
  refine zz_callV (ci := 5) hC2 dL_law_715 zw_m_L_166 wYX5_chain wDX5_chain rfl (by omega) h54 rfl (Nat.le_of_ble_eq_true rfl) (by omega) (Nat.zero_le _) (Nat.zero_le _) rfl (fun v8 τ8 h8 => ?_) (fun E8 τ8 h8 => by obtain ⟨b, hb, _⟩ := hQ2 _ _ h8; cases hb)
  obtain ⟨b, hb, hT, hJK⟩ := hQ2 _ _ h8
  cases hb
  obtain ⟨y, rfl⟩ := hT
  refine zz_istore dL_law_718 (by decide) ?_
  have hJ8 := JK_J hJK
  obtain ⟨⟨n8, MB8, MI8, T8, rfl⟩, ⟨o8, h66, hV⟩, ⟨w8, h67, hY⟩⟩ := JK_at hJK
  refine zz_aload_n dL_law_720 rfl ?_
  refine zz_callV1 (ci := 5) m_thrown dL_law_721 zw_m_L_142 wYX5_thrown wDX5_thrown rfl (by omega) pm_o rfl (Nat.le_of_ble_eq_true rfl) (by decide) rfl ?_
  refine zz_iload dL_law_724 rfl ?_
  refine zz_icmp_eq (tgt := 731) dL_law_726 (by decide) (fun _ => ?_) (fun h => absurd rfl h)
  refine zz_iload dL_law_731 rfl ?_
  refine zz_if_ne (tgt := 748) dL_law_733 (by decide) (fun _ => ?_) (fun hk => ?_)
  · refine zz_goto (tgt := 2755) dL_law_748 (by decide) ?_
    refine zz_lvs (lv2 := LV i) (fun q hq => by simp only [List.mem_cons, List.not_mem_nil, or_false] at hq; rcases hq with rfl | rfl | rfl | rfl | rfl | rfl <;> simp [zz_up1, zz_up2, Value.category]) ?_
    exact zz_less (by omega) (by omega) (K _ hJ8)
  · refine zz_aload_n dL_law_736 rfl ?_
    refine zz_iconst (v := 0) dL_law_737 (by decide) ?_
    refine zz_lald dL_law_738 (by omega) h66 (vp_in_nI (n := 0) (N := 1) (by omega) (by omega)) ?_
    obtain ⟨y2, e1, e2⟩ := hV hk
    cases e1
    refine zz_iload dL_law_739 rfl ?_
    refine zz_i2l dL_law_741 rfl ?_
    refine zz_lcmp dL_law_742 ?_
    refine zz_if_eq (tgt := 748) dL_law_743 (by decide) (fun _ => ?_) (fun h => absurd (cmp_e.mpr e2) h)
    refine zz_goto (tgt := 2755) dL_law_748 (by decide) ?_
    refine zz_lvs (lv2 := LV i) (fun q hq => by simp only [List.mem_cons, List.not_mem_nil, or_false] at hq; rcases hq with rfl | rfl | rfl | rfl | rfl | rfl <;> simp [zz_up1, zz_up2, Value.category]) ?_
    exact zz_less (by omega) (by omega) (K _ hJ8)
set_option maxHeartbeats 1000000 in
set_option maxRecDepth 20000 in
theorem L_draw (hi : i + 6 ≤ L) (hL : L ≤ 3072) (hJ : JJ σ) (h1 : 1 ≤ rc) (h2 : 6 ≤ rz) (K : ∀ τ, JJ τ → zz_E mL_law (some (L, xs)) 9 (rc - 1) (rz - 6) Q 2755 (LV i) [] τ) : zz_E mL_law (some (L, xs)) 9 rc rz Q 751 (LV i) [] σ := by
  obtain ⟨k, P1, hC, hM⟩ := a_draw hJ (xs (i + 1)) (xs (i + 2)) (xs (i + 3))
  refine zz_aload_n dL_law_751 rfl ?_
  refine zz_aload_n dL_law_752 rfl ?_
  refine zz_iload dL_law_753 rfl ?_
  refine zz_arg (j := 1) dL_law_755 dL_law_756 dL_law_757 (v := 1) (by decide) (ad_1 i) (by omega) hL ?_
  refine zz_aload_n dL_law_758 rfl ?_
  refine zz_iload dL_law_759 rfl ?_
  refine zz_arg (j := 2) dL_law_761 dL_law_762 dL_law_763 (v := 2) (by decide) (ad_2 i) (by omega) hL ?_
  refine zz_aload_n dL_law_764 rfl ?_
  refine zz_iload dL_law_765 rfl ?_
  refine zz_arg (j := 3) dL_law_767 dL_law_768 dL_law_769 (v := 3) (by decide) (ad_3 i) (by omega) hL ?_
  refine zz_aload_n dL_law_770 rfl ?_
  refine zz_callSH rfl hC dL_law_771 zw_m_L_167 wYL_draw wDL_draw rfl (Nat.le_of_ble_eq_true rfl) (by decide) h1 h2 rfl (fun v9 τ9 h9 => ?_) (fun E9 τ9 h9 => by cases h9.1)
  obtain ⟨hv, hp⟩ := h9
  cases hv
  obtain ⟨⟨fs, h54⟩, dm, Q2, hdm, hC2, hQ2⟩ := hM τ9 hp
  refine zz_istore dL_law_774 (by decide) ?_
  refine zz_aload_n dL_law_776 rfl ?_
  refine zz_aload_n dL_law_777 rfl ?_
  refine zz_iload dL_law_778 rfl ?_
  refine zz_arg (j := 1) dL_law_780 dL_law_781 dL_law_782 (v := 1) (by decide) (ad_1 i) (by omega) hL ?_
  refine zz_aload_n dL_law_783 rfl ?_
  refine zz_iload dL_law_784 rfl ?_
  refine zz_arg (j := 2) dL_law_786 dL_law_787 dL_law_788 (v := 2) (by decide) (ad_2 i) (by omega) hL ?_
  refine zz_aload_n dL_law_789 rfl ?_
  refine zz_iload dL_law_790 rfl ?_
  refine zz_arg (j := 3) dL_law_792 dL_law_793 dL_law_794 (v := 3) (by decide) (ad_3 i) (by omega) hL ?_
  refine zz_callV (ci := 5) hC2 dL_law_795 zw_m_L_170 wYX5_draw wDX5_draw rfl (by omega) h54 rfl (Nat.le_of_ble_eq_true rfl) (by omega) (Nat.zero_le _) (Nat.zero_le _) rfl (fun v8 τ8 h8 => ?_) (fun E8 τ8 h8 => by obtain ⟨b, hb, _⟩ := hQ2 _ _ h8; cases hb)
  obtain ⟨b, hb, hT, hJK⟩ := hQ2 _ _ h8
  cases hb
  obtain ⟨y, rfl⟩ := hT
  refine zz_istore dL_law_798 (by decide) ?_
  have hJ8 := JK_J hJK
  obtain ⟨⟨n8, MB8, MI8, T8, rfl⟩, ⟨o8, h66, hV⟩, ⟨w8, h67, hY⟩⟩ := JK_at hJK
  refine zz_aload_n dL_law_800 rfl ?_
  refine zz_callV1 (ci := 5) m_thrown dL_law_801 zw_m_L_142 wYX5_thrown wDX5_thrown rfl (by omega) pm_o rfl (Nat.le_of_ble_eq_true rfl) (by decide) rfl ?_
  refine zz_iload dL_law_804 rfl ?_
  refine zz_icmp_eq (tgt := 811) dL_law_806 (by decide) (fun _ => ?_) (fun h => absurd rfl h)
  refine zz_iload dL_law_811 rfl ?_
  refine zz_if_ne (tgt := 828) dL_law_813 (by decide) (fun _ => ?_) (fun hk => ?_)
  · refine zz_goto (tgt := 2755) dL_law_828 (by decide) ?_
    refine zz_lvs (lv2 := LV i) (fun q hq => by simp only [List.mem_cons, List.not_mem_nil, or_false] at hq; rcases hq with rfl | rfl | rfl | rfl | rfl | rfl <;> simp [zz_up1, zz_up2, Value.category]) ?_
    exact zz_less (by omega) (by omega) (K _ hJ8)
  · refine zz_aload_n dL_law_816 rfl ?_
    refine zz_iconst (v := 0) dL_law_817 (by decide) ?_
    refine zz_lald dL_law_818 (by omega) h66 (vp_in_nI (n := 0) (N := 1) (by omega) (by omega)) ?_
    obtain ⟨y2, e1, e2⟩ := hV hk
    cases e1
    refine zz_iload dL_law_819 rfl ?_
    refine zz_i2l dL_law_821 rfl ?_
    refine zz_lcmp dL_law_822 ?_
    refine zz_if_eq (tgt := 828) dL_law_823 (by decide) (fun _ => ?_) (fun h => absurd (cmp_e.mpr e2) h)
    refine zz_goto (tgt := 2755) dL_law_828 (by decide) ?_
    refine zz_lvs (lv2 := LV i) (fun q hq => by simp only [List.mem_cons, List.not_mem_nil, or_false] at hq; rcases hq with rfl | rfl | rfl | rfl | rfl | rfl <;> simp [zz_up1, zz_up2, Value.category]) ?_
    exact zz_less (by omega) (by omega) (K _ hJ8)
set_option maxHeartbeats 1000000 in
set_option maxRecDepth 20000 in
theorem L_copy (hi : i + 6 ≤ L) (hL : L ≤ 3072) (hJ : JJ σ) (h1 : 1 ≤ rc) (h2 : 6 ≤ rz) (K : ∀ τ, JJ τ → zz_E mL_law (some (L, xs)) 9 (rc - 1) (rz - 6) Q 2755 (LV i) [] τ) : zz_E mL_law (some (L, xs)) 9 rc rz Q 831 (LV i) [] σ := by
  obtain ⟨k, P1, hC, hM⟩ := a_copy hJ (xs (i + 1)) (xs (i + 2))
  refine zz_aload_n dL_law_831 rfl ?_
  refine zz_aload_n dL_law_832 rfl ?_
  refine zz_iload dL_law_833 rfl ?_
  refine zz_arg (j := 1) dL_law_835 dL_law_836 dL_law_837 (v := 1) (by decide) (ad_1 i) (by omega) hL ?_
  refine zz_aload_n dL_law_838 rfl ?_
  refine zz_iload dL_law_839 rfl ?_
  refine zz_arg (j := 2) dL_law_841 dL_law_842 dL_law_843 (v := 2) (by decide) (ad_2 i) (by omega) hL ?_
  refine zz_aload_n dL_law_844 rfl ?_
  refine zz_callSH rfl hC dL_law_845 zw_m_L_171 wYL_copy wDL_copy rfl (Nat.le_of_ble_eq_true rfl) (by decide) h1 h2 rfl (fun v9 τ9 h9 => ?_) (fun E9 τ9 h9 => by cases h9.1)
  obtain ⟨hv, hp⟩ := h9
  cases hv
  obtain ⟨⟨fs, h54⟩, dm, Q2, hdm, hC2, hQ2⟩ := hM τ9 hp
  refine zz_istore dL_law_848 (by decide) ?_
  refine zz_aload_n dL_law_850 rfl ?_
  refine zz_aload_n dL_law_851 rfl ?_
  refine zz_iload dL_law_852 rfl ?_
  refine zz_arg (j := 1) dL_law_854 dL_law_855 dL_law_856 (v := 1) (by decide) (ad_1 i) (by omega) hL ?_
  refine zz_aload_n dL_law_857 rfl ?_
  refine zz_iload dL_law_858 rfl ?_
  refine zz_arg (j := 2) dL_law_860 dL_law_861 dL_law_862 (v := 2) (by decide) (ad_2 i) (by omega) hL ?_
  refine zz_callV (ci := 5) hC2 dL_law_863 zw_m_L_174 wYX5_copy wDX5_copy rfl (by omega) h54 rfl (Nat.le_of_ble_eq_true rfl) (by omega) (Nat.zero_le _) (Nat.zero_le _) rfl (fun v8 τ8 h8 => ?_) (fun E8 τ8 h8 => by obtain ⟨b, hb, _⟩ := hQ2 _ _ h8; cases hb)
  obtain ⟨b, hb, hT, hJK⟩ := hQ2 _ _ h8
  cases hb
  obtain ⟨y, rfl⟩ := hT
  refine zz_istore dL_law_866 (by decide) ?_
  have hJ8 := JK_J hJK
  obtain ⟨⟨n8, MB8, MI8, T8, rfl⟩, ⟨o8, h66, hV⟩, ⟨w8, h67, hY⟩⟩ := JK_at hJK
  refine zz_aload_n dL_law_868 rfl ?_
  refine zz_callV1 (ci := 5) m_thrown dL_law_869 zw_m_L_142 wYX5_thrown wDX5_thrown rfl (by omega) pm_o rfl (Nat.le_of_ble_eq_true rfl) (by decide) rfl ?_
  refine zz_iload dL_law_872 rfl ?_
  refine zz_icmp_eq (tgt := 879) dL_law_874 (by decide) (fun _ => ?_) (fun h => absurd rfl h)
  refine zz_iload dL_law_879 rfl ?_
  refine zz_if_ne (tgt := 896) dL_law_881 (by decide) (fun _ => ?_) (fun hk => ?_)
  · refine zz_goto (tgt := 2755) dL_law_896 (by decide) ?_
    refine zz_lvs (lv2 := LV i) (fun q hq => by simp only [List.mem_cons, List.not_mem_nil, or_false] at hq; rcases hq with rfl | rfl | rfl | rfl | rfl | rfl <;> simp [zz_up1, zz_up2, Value.category]) ?_
    exact zz_less (by omega) (by omega) (K _ hJ8)
  · refine zz_aload_n dL_law_884 rfl ?_
    refine zz_iconst (v := 0) dL_law_885 (by decide) ?_
    refine zz_lald dL_law_886 (by omega) h66 (vp_in_nI (n := 0) (N := 1) (by omega) (by omega)) ?_
    obtain ⟨y2, e1, e2⟩ := hV hk
    cases e1
    refine zz_iload dL_law_887 rfl ?_
    refine zz_i2l dL_law_889 rfl ?_
    refine zz_lcmp dL_law_890 ?_
    refine zz_if_eq (tgt := 896) dL_law_891 (by decide) (fun _ => ?_) (fun h => absurd (cmp_e.mpr e2) h)
    refine zz_goto (tgt := 2755) dL_law_896 (by decide) ?_
    refine zz_lvs (lv2 := LV i) (fun q hq => by simp only [List.mem_cons, List.not_mem_nil, or_false] at hq; rcases hq with rfl | rfl | rfl | rfl | rfl | rfl <;> simp [zz_up1, zz_up2, Value.category]) ?_
    exact zz_less (by omega) (by omega) (K _ hJ8)
set_option maxHeartbeats 1000000 in
set_option maxRecDepth 20000 in
theorem L_combine (hi : i + 6 ≤ L) (hL : L ≤ 3072) (hJ : JJ σ) (h1 : 1 ≤ rc) (h2 : 6 ≤ rz) (K : ∀ τ, JJ τ → zz_E mL_law (some (L, xs)) 9 (rc - 1) (rz - 6) Q 2755 (LV i) [] τ) : zz_E mL_law (some (L, xs)) 9 rc rz Q 899 (LV i) [] σ := by
  obtain ⟨k, P1, hC, hM⟩ := a_combine hJ (xs (i + 1)) (xs (i + 2)) (xs (i + 3))
  refine zz_aload_n dL_law_899 rfl ?_
  refine zz_aload_n dL_law_900 rfl ?_
  refine zz_iload dL_law_901 rfl ?_
  refine zz_arg (j := 1) dL_law_903 dL_law_904 dL_law_905 (v := 1) (by decide) (ad_1 i) (by omega) hL ?_
  refine zz_aload_n dL_law_906 rfl ?_
  refine zz_iload dL_law_907 rfl ?_
  refine zz_arg (j := 2) dL_law_909 dL_law_910 dL_law_911 (v := 2) (by decide) (ad_2 i) (by omega) hL ?_
  refine zz_aload_n dL_law_912 rfl ?_
  refine zz_iload dL_law_913 rfl ?_
  refine zz_arg (j := 3) dL_law_915 dL_law_916 dL_law_917 (v := 3) (by decide) (ad_3 i) (by omega) hL ?_
  refine zz_aload_n dL_law_918 rfl ?_
  refine zz_callSH rfl hC dL_law_919 zw_m_L_175 wYL_combine wDL_combine rfl (Nat.le_of_ble_eq_true rfl) (by decide) h1 h2 rfl (fun v9 τ9 h9 => ?_) (fun E9 τ9 h9 => by cases h9.1)
  obtain ⟨hv, hp⟩ := h9
  cases hv
  obtain ⟨⟨fs, h54⟩, dm, Q2, hdm, hC2, hQ2⟩ := hM τ9 hp
  refine zz_istore dL_law_922 (by decide) ?_
  refine zz_aload_n dL_law_924 rfl ?_
  refine zz_aload_n dL_law_925 rfl ?_
  refine zz_iload dL_law_926 rfl ?_
  refine zz_arg (j := 1) dL_law_928 dL_law_929 dL_law_930 (v := 1) (by decide) (ad_1 i) (by omega) hL ?_
  refine zz_aload_n dL_law_931 rfl ?_
  refine zz_iload dL_law_932 rfl ?_
  refine zz_arg (j := 2) dL_law_934 dL_law_935 dL_law_936 (v := 2) (by decide) (ad_2 i) (by omega) hL ?_
  refine zz_aload_n dL_law_937 rfl ?_
  refine zz_iload dL_law_938 rfl ?_
  refine zz_arg (j := 3) dL_law_940 dL_law_941 dL_law_942 (v := 3) (by decide) (ad_3 i) (by omega) hL ?_
  refine zz_callV (ci := 5) hC2 dL_law_943 zw_m_L_177 wYX5_combine wDX5_combine rfl (by omega) h54 rfl (Nat.le_of_ble_eq_true rfl) (by omega) (Nat.zero_le _) (Nat.zero_le _) rfl (fun v8 τ8 h8 => ?_) (fun E8 τ8 h8 => by obtain ⟨b, hb, _⟩ := hQ2 _ _ h8; cases hb)
  obtain ⟨b, hb, hT, hJK⟩ := hQ2 _ _ h8
  cases hb
  obtain ⟨y, rfl⟩ := hT
  refine zz_istore dL_law_946 (by decide) ?_
  have hJ8 := JK_J hJK
  obtain ⟨⟨n8, MB8, MI8, T8, rfl⟩, ⟨o8, h66, hV⟩, ⟨w8, h67, hY⟩⟩ := JK_at hJK
  refine zz_aload_n dL_law_948 rfl ?_
  refine zz_callV1 (ci := 5) m_thrown dL_law_949 zw_m_L_142 wYX5_thrown wDX5_thrown rfl (by omega) pm_o rfl (Nat.le_of_ble_eq_true rfl) (by decide) rfl ?_
  refine zz_iload dL_law_952 rfl ?_
  refine zz_icmp_eq (tgt := 959) dL_law_954 (by decide) (fun _ => ?_) (fun h => absurd rfl h)
  refine zz_iload dL_law_959 rfl ?_
  refine zz_if_ne (tgt := 976) dL_law_961 (by decide) (fun _ => ?_) (fun hk => ?_)
  · refine zz_goto (tgt := 2755) dL_law_976 (by decide) ?_
    refine zz_lvs (lv2 := LV i) (fun q hq => by simp only [List.mem_cons, List.not_mem_nil, or_false] at hq; rcases hq with rfl | rfl | rfl | rfl | rfl | rfl <;> simp [zz_up1, zz_up2, Value.category]) ?_
    exact zz_less (by omega) (by omega) (K _ hJ8)
  · refine zz_aload_n dL_law_964 rfl ?_
    refine zz_iconst (v := 0) dL_law_965 (by decide) ?_
    refine zz_lald dL_law_966 (by omega) h66 (vp_in_nI (n := 0) (N := 1) (by omega) (by omega)) ?_
    obtain ⟨y2, e1, e2⟩ := hV hk
    cases e1
    refine zz_iload dL_law_967 rfl ?_
    refine zz_i2l dL_law_969 rfl ?_
    refine zz_lcmp dL_law_970 ?_
    refine zz_if_eq (tgt := 976) dL_law_971 (by decide) (fun _ => ?_) (fun h => absurd (cmp_e.mpr e2) h)
    refine zz_goto (tgt := 2755) dL_law_976 (by decide) ?_
    refine zz_lvs (lv2 := LV i) (fun q hq => by simp only [List.mem_cons, List.not_mem_nil, or_false] at hq; rcases hq with rfl | rfl | rfl | rfl | rfl | rfl <;> simp [zz_up1, zz_up2, Value.category]) ?_
    exact zz_less (by omega) (by omega) (K _ hJ8)
set_option maxHeartbeats 1000000 in
set_option maxRecDepth 20000 in
theorem L_compose (hi : i + 6 ≤ L) (hL : L ≤ 3072) (hJ : JJ σ) (h1 : 1 ≤ rc) (h2 : 6 ≤ rz) (K : ∀ τ, JJ τ → zz_E mL_law (some (L, xs)) 9 (rc - 1) (rz - 6) Q 2755 (LV i) [] τ) : zz_E mL_law (some (L, xs)) 9 rc rz Q 979 (LV i) [] σ := by
  obtain ⟨k, P1, hC, hM⟩ := a_compose hJ (xs (i + 1)) (xs (i + 2)) (xs (i + 3))
  refine zz_aload_n dL_law_979 rfl ?_
  refine zz_aload_n dL_law_980 rfl ?_
  refine zz_iload dL_law_981 rfl ?_
  refine zz_arg (j := 1) dL_law_983 dL_law_984 dL_law_985 (v := 1) (by decide) (ad_1 i) (by omega) hL ?_
  refine zz_aload_n dL_law_986 rfl ?_
  refine zz_iload dL_law_987 rfl ?_
  refine zz_arg (j := 2) dL_law_989 dL_law_990 dL_law_991 (v := 2) (by decide) (ad_2 i) (by omega) hL ?_
  refine zz_aload_n dL_law_992 rfl ?_
  refine zz_iload dL_law_993 rfl ?_
  refine zz_arg (j := 3) dL_law_995 dL_law_996 dL_law_997 (v := 3) (by decide) (ad_3 i) (by omega) hL ?_
  refine zz_aload_n dL_law_998 rfl ?_
  refine zz_callSH rfl hC dL_law_999 zw_m_L_178 wYL_compose wDL_compose rfl (Nat.le_of_ble_eq_true rfl) (by decide) h1 h2 rfl (fun v9 τ9 h9 => ?_) (fun E9 τ9 h9 => by cases h9.1)
  obtain ⟨hv, hp⟩ := h9
  cases hv
  obtain ⟨⟨fs, h54⟩, dm, Q2, hdm, hC2, hQ2⟩ := hM τ9 hp
  refine zz_istore dL_law_1002 (by decide) ?_
  refine zz_aload_n dL_law_1004 rfl ?_
  refine zz_aload_n dL_law_1005 rfl ?_
  refine zz_iload dL_law_1006 rfl ?_
  refine zz_arg (j := 1) dL_law_1008 dL_law_1009 dL_law_1010 (v := 1) (by decide) (ad_1 i) (by omega) hL ?_
  refine zz_aload_n dL_law_1011 rfl ?_
  refine zz_iload dL_law_1012 rfl ?_
  refine zz_arg (j := 2) dL_law_1014 dL_law_1015 dL_law_1016 (v := 2) (by decide) (ad_2 i) (by omega) hL ?_
  refine zz_aload_n dL_law_1017 rfl ?_
  refine zz_iload dL_law_1018 rfl ?_
  refine zz_arg (j := 3) dL_law_1020 dL_law_1021 dL_law_1022 (v := 3) (by decide) (ad_3 i) (by omega) hL ?_
  refine zz_callV (ci := 5) hC2 dL_law_1023 zw_m_L_180 wYX5_compose wDX5_compose rfl (by omega) h54 rfl (Nat.le_of_ble_eq_true rfl) (by omega) (Nat.zero_le _) (Nat.zero_le _) rfl (fun v8 τ8 h8 => ?_) (fun E8 τ8 h8 => by obtain ⟨b, hb, _⟩ := hQ2 _ _ h8; cases hb)
  obtain ⟨b, hb, hT, hJK⟩ := hQ2 _ _ h8
  cases hb
  obtain ⟨y, rfl⟩ := hT
  refine zz_istore dL_law_1026 (by decide) ?_
  have hJ8 := JK_J hJK
  obtain ⟨⟨n8, MB8, MI8, T8, rfl⟩, ⟨o8, h66, hV⟩, ⟨w8, h67, hY⟩⟩ := JK_at hJK
  refine zz_aload_n dL_law_1028 rfl ?_
  refine zz_callV1 (ci := 5) m_thrown dL_law_1029 zw_m_L_142 wYX5_thrown wDX5_thrown rfl (by omega) pm_o rfl (Nat.le_of_ble_eq_true rfl) (by decide) rfl ?_
  refine zz_iload dL_law_1032 rfl ?_
  refine zz_icmp_eq (tgt := 1039) dL_law_1034 (by decide) (fun _ => ?_) (fun h => absurd rfl h)
  refine zz_iload dL_law_1039 rfl ?_
  refine zz_if_ne (tgt := 1056) dL_law_1041 (by decide) (fun _ => ?_) (fun hk => ?_)
  · refine zz_goto (tgt := 2755) dL_law_1056 (by decide) ?_
    refine zz_lvs (lv2 := LV i) (fun q hq => by simp only [List.mem_cons, List.not_mem_nil, or_false] at hq; rcases hq with rfl | rfl | rfl | rfl | rfl | rfl <;> simp [zz_up1, zz_up2, Value.category]) ?_
    exact zz_less (by omega) (by omega) (K _ hJ8)
  · refine zz_aload_n dL_law_1044 rfl ?_
    refine zz_iconst (v := 0) dL_law_1045 (by decide) ?_
    refine zz_lald dL_law_1046 (by omega) h66 (vp_in_nI (n := 0) (N := 1) (by omega) (by omega)) ?_
    obtain ⟨y2, e1, e2⟩ := hV hk
    cases e1
    refine zz_iload dL_law_1047 rfl ?_
    refine zz_i2l dL_law_1049 rfl ?_
    refine zz_lcmp dL_law_1050 ?_
    refine zz_if_eq (tgt := 1056) dL_law_1051 (by decide) (fun _ => ?_) (fun h => absurd (cmp_e.mpr e2) h)
    refine zz_goto (tgt := 2755) dL_law_1056 (by decide) ?_
    refine zz_lvs (lv2 := LV i) (fun q hq => by simp only [List.mem_cons, List.not_mem_nil, or_false] at hq; rcases hq with rfl | rfl | rfl | rfl | rfl | rfl <;> simp [zz_up1, zz_up2, Value.category]) ?_
    exact zz_less (by omega) (by omega) (K _ hJ8)
set_option maxHeartbeats 1000000 in
set_option maxRecDepth 20000 in
theorem L_turn (hi : i + 6 ≤ L) (hL : L ≤ 3072) (hJ : JJ σ) (h1 : 1 ≤ rc) (h2 : 6 ≤ rz) (K : ∀ τ, JJ τ → zz_E mL_law (some (L, xs)) 9 (rc - 1) (rz - 6) Q 2755 (LV i) [] τ) : zz_E mL_law (some (L, xs)) 9 rc rz Q 1059 (LV i) [] σ := by
  obtain ⟨k, P1, hC, hM⟩ := a_turn hJ (xs (i + 1))
  refine zz_aload_n dL_law_1059 rfl ?_
  refine zz_aload_n dL_law_1060 rfl ?_
  refine zz_iload dL_law_1061 rfl ?_
  refine zz_arg (j := 1) dL_law_1063 dL_law_1064 dL_law_1065 (v := 1) (by decide) (ad_1 i) (by omega) hL ?_
  refine zz_aload_n dL_law_1066 rfl ?_
  refine zz_callSH rfl hC dL_law_1067 zw_m_L_181 wYL_turn wDL_turn rfl (Nat.le_of_ble_eq_true rfl) (by decide) h1 h2 rfl (fun v9 τ9 h9 => ?_) (fun E9 τ9 h9 => by cases h9.1)
  obtain ⟨hv, hp⟩ := h9
  cases hv
  obtain ⟨⟨fs, h54⟩, dm, Q2, hdm, hC2, hQ2⟩ := hM τ9 hp
  refine zz_istore dL_law_1070 (by decide) ?_
  refine zz_aload_n dL_law_1072 rfl ?_
  refine zz_aload_n dL_law_1073 rfl ?_
  refine zz_iload dL_law_1074 rfl ?_
  refine zz_arg (j := 1) dL_law_1076 dL_law_1077 dL_law_1078 (v := 1) (by decide) (ad_1 i) (by omega) hL ?_
  refine zz_callV (ci := 5) hC2 dL_law_1079 zw_m_L_183 wYX5_turn wDX5_turn rfl (by omega) h54 rfl (Nat.le_of_ble_eq_true rfl) (by omega) (Nat.zero_le _) (Nat.zero_le _) rfl (fun v8 τ8 h8 => ?_) (fun E8 τ8 h8 => by obtain ⟨b, hb, _⟩ := hQ2 _ _ h8; cases hb)
  obtain ⟨b, hb, hT, hJK⟩ := hQ2 _ _ h8
  cases hb
  obtain ⟨y, rfl⟩ := hT
  refine zz_istore dL_law_1082 (by decide) ?_
  have hJ8 := JK_J hJK
  obtain ⟨⟨n8, MB8, MI8, T8, rfl⟩, ⟨o8, h66, hV⟩, ⟨w8, h67, hY⟩⟩ := JK_at hJK
  refine zz_aload_n dL_law_1084 rfl ?_
  refine zz_callV1 (ci := 5) m_thrown dL_law_1085 zw_m_L_142 wYX5_thrown wDX5_thrown rfl (by omega) pm_o rfl (Nat.le_of_ble_eq_true rfl) (by decide) rfl ?_
  refine zz_iload dL_law_1088 rfl ?_
  refine zz_icmp_eq (tgt := 1095) dL_law_1090 (by decide) (fun _ => ?_) (fun h => absurd rfl h)
  refine zz_iload dL_law_1095 rfl ?_
  refine zz_if_ne (tgt := 1112) dL_law_1097 (by decide) (fun _ => ?_) (fun hk => ?_)
  · refine zz_goto (tgt := 2755) dL_law_1112 (by decide) ?_
    refine zz_lvs (lv2 := LV i) (fun q hq => by simp only [List.mem_cons, List.not_mem_nil, or_false] at hq; rcases hq with rfl | rfl | rfl | rfl | rfl | rfl <;> simp [zz_up1, zz_up2, Value.category]) ?_
    exact zz_less (by omega) (by omega) (K _ hJ8)
  · refine zz_aload_n dL_law_1100 rfl ?_
    refine zz_iconst (v := 0) dL_law_1101 (by decide) ?_
    refine zz_lald dL_law_1102 (by omega) h66 (vp_in_nI (n := 0) (N := 1) (by omega) (by omega)) ?_
    obtain ⟨y2, e1, e2⟩ := hV hk
    cases e1
    refine zz_iload dL_law_1103 rfl ?_
    refine zz_i2l dL_law_1105 rfl ?_
    refine zz_lcmp dL_law_1106 ?_
    refine zz_if_eq (tgt := 1112) dL_law_1107 (by decide) (fun _ => ?_) (fun h => absurd (cmp_e.mpr e2) h)
    refine zz_goto (tgt := 2755) dL_law_1112 (by decide) ?_
    refine zz_lvs (lv2 := LV i) (fun q hq => by simp only [List.mem_cons, List.not_mem_nil, or_false] at hq; rcases hq with rfl | rfl | rfl | rfl | rfl | rfl <;> simp [zz_up1, zz_up2, Value.category]) ?_
    exact zz_less (by omega) (by omega) (K _ hJ8)
set_option maxHeartbeats 1000000 in
set_option maxRecDepth 20000 in
theorem L_oppose (hi : i + 6 ≤ L) (hL : L ≤ 3072) (hJ : JJ σ) (h1 : 1 ≤ rc) (h2 : 6 ≤ rz) (K : ∀ τ, JJ τ → zz_E mL_law (some (L, xs)) 9 (rc - 1) (rz - 6) Q 2755 (LV i) [] τ) : zz_E mL_law (some (L, xs)) 9 rc rz Q 1115 (LV i) [] σ := by
  obtain ⟨k, P1, hC, hM⟩ := a_oppose hJ (xs (i + 1))
  refine zz_aload_n dL_law_1115 rfl ?_
  refine zz_aload_n dL_law_1116 rfl ?_
  refine zz_iload dL_law_1117 rfl ?_
  refine zz_arg (j := 1) dL_law_1119 dL_law_1120 dL_law_1121 (v := 1) (by decide) (ad_1 i) (by omega) hL ?_
  refine zz_aload_n dL_law_1122 rfl ?_
  refine zz_callSH rfl hC dL_law_1123 zw_m_L_184 wYL_oppose wDL_oppose rfl (Nat.le_of_ble_eq_true rfl) (by decide) h1 h2 rfl (fun v9 τ9 h9 => ?_) (fun E9 τ9 h9 => by cases h9.1)
  obtain ⟨hv, hp⟩ := h9
  cases hv
  obtain ⟨⟨fs, h54⟩, dm, Q2, hdm, hC2, hQ2⟩ := hM τ9 hp
  refine zz_istore dL_law_1126 (by decide) ?_
  refine zz_aload_n dL_law_1128 rfl ?_
  refine zz_aload_n dL_law_1129 rfl ?_
  refine zz_iload dL_law_1130 rfl ?_
  refine zz_arg (j := 1) dL_law_1132 dL_law_1133 dL_law_1134 (v := 1) (by decide) (ad_1 i) (by omega) hL ?_
  refine zz_callV (ci := 5) hC2 dL_law_1135 zw_m_L_186 wYX5_oppose wDX5_oppose rfl (by omega) h54 rfl (Nat.le_of_ble_eq_true rfl) (by omega) (Nat.zero_le _) (Nat.zero_le _) rfl (fun v8 τ8 h8 => ?_) (fun E8 τ8 h8 => by obtain ⟨b, hb, _⟩ := hQ2 _ _ h8; cases hb)
  obtain ⟨b, hb, hT, hJK⟩ := hQ2 _ _ h8
  cases hb
  obtain ⟨y, rfl⟩ := hT
  refine zz_istore dL_law_1138 (by decide) ?_
  have hJ8 := JK_J hJK
  obtain ⟨⟨n8, MB8, MI8, T8, rfl⟩, ⟨o8, h66, hV⟩, ⟨w8, h67, hY⟩⟩ := JK_at hJK
  refine zz_aload_n dL_law_1140 rfl ?_
  refine zz_callV1 (ci := 5) m_thrown dL_law_1141 zw_m_L_142 wYX5_thrown wDX5_thrown rfl (by omega) pm_o rfl (Nat.le_of_ble_eq_true rfl) (by decide) rfl ?_
  refine zz_iload dL_law_1144 rfl ?_
  refine zz_icmp_eq (tgt := 1151) dL_law_1146 (by decide) (fun _ => ?_) (fun h => absurd rfl h)
  refine zz_iload dL_law_1151 rfl ?_
  refine zz_if_ne (tgt := 1168) dL_law_1153 (by decide) (fun _ => ?_) (fun hk => ?_)
  · refine zz_goto (tgt := 2755) dL_law_1168 (by decide) ?_
    refine zz_lvs (lv2 := LV i) (fun q hq => by simp only [List.mem_cons, List.not_mem_nil, or_false] at hq; rcases hq with rfl | rfl | rfl | rfl | rfl | rfl <;> simp [zz_up1, zz_up2, Value.category]) ?_
    exact zz_less (by omega) (by omega) (K _ hJ8)
  · refine zz_aload_n dL_law_1156 rfl ?_
    refine zz_iconst (v := 0) dL_law_1157 (by decide) ?_
    refine zz_lald dL_law_1158 (by omega) h66 (vp_in_nI (n := 0) (N := 1) (by omega) (by omega)) ?_
    obtain ⟨y2, e1, e2⟩ := hV hk
    cases e1
    refine zz_iload dL_law_1159 rfl ?_
    refine zz_i2l dL_law_1161 rfl ?_
    refine zz_lcmp dL_law_1162 ?_
    refine zz_if_eq (tgt := 1168) dL_law_1163 (by decide) (fun _ => ?_) (fun h => absurd (cmp_e.mpr e2) h)
    refine zz_goto (tgt := 2755) dL_law_1168 (by decide) ?_
    refine zz_lvs (lv2 := LV i) (fun q hq => by simp only [List.mem_cons, List.not_mem_nil, or_false] at hq; rcases hq with rfl | rfl | rfl | rfl | rfl | rfl <;> simp [zz_up1, zz_up2, Value.category]) ?_
    exact zz_less (by omega) (by omega) (K _ hJ8)
set_option maxHeartbeats 1000000 in
set_option maxRecDepth 20000 in
theorem L_close (hi : i + 6 ≤ L) (hL : L ≤ 3072) (hJ : JJ σ) (h1 : 1 ≤ rc) (h2 : 6 ≤ rz) (K : ∀ τ, JJ τ → zz_E mL_law (some (L, xs)) 9 (rc - 1) (rz - 6) Q 2755 (LV i) [] τ) : zz_E mL_law (some (L, xs)) 9 rc rz Q 1171 (LV i) [] σ := by
  obtain ⟨k, P1, hC, hM⟩ := a_close hJ (xs (i + 1)) (decide (¬ xs (i + 2) = 0))
  refine zz_aload_n dL_law_1171 rfl ?_
  refine zz_aload_n dL_law_1172 rfl ?_
  refine zz_iload dL_law_1173 rfl ?_
  refine zz_arg (j := 1) dL_law_1175 dL_law_1176 dL_law_1177 (v := 1) (by decide) (ad_1 i) (by omega) hL ?_
  refine zz_aload_n dL_law_1178 rfl ?_
  refine zz_iload dL_law_1179 rfl ?_
  refine zz_arg (j := 2) dL_law_1181 dL_law_1182 dL_law_1183 (v := 2) (by decide) (ad_2 i) (by omega) hL ?_
  refine zz_nz dL_law_1184 dL_law_1187 dL_law_1188 dL_law_1191 ?_
  refine zz_aload_n dL_law_1192 rfl ?_
  refine zz_callSH rfl hC dL_law_1193 zw_m_L_187 wYL_close wDL_close rfl (Nat.le_of_ble_eq_true rfl) (by decide) h1 h2 rfl (fun v9 τ9 h9 => ?_) (fun E9 τ9 h9 => by cases h9.1)
  obtain ⟨hv, hp⟩ := h9
  cases hv
  obtain ⟨⟨fs, h54⟩, dm, Q2, hdm, hC2, hQ2⟩ := hM τ9 hp
  refine zz_istore dL_law_1196 (by decide) ?_
  refine zz_aload_n dL_law_1198 rfl ?_
  refine zz_aload_n dL_law_1199 rfl ?_
  refine zz_iload dL_law_1200 rfl ?_
  refine zz_arg (j := 1) dL_law_1202 dL_law_1203 dL_law_1204 (v := 1) (by decide) (ad_1 i) (by omega) hL ?_
  refine zz_aload_n dL_law_1205 rfl ?_
  refine zz_iload dL_law_1206 rfl ?_
  refine zz_arg (j := 2) dL_law_1208 dL_law_1209 dL_law_1210 (v := 2) (by decide) (ad_2 i) (by omega) hL ?_
  refine zz_nz dL_law_1211 dL_law_1214 dL_law_1215 dL_law_1218 ?_
  refine zz_callV (ci := 5) hC2 dL_law_1219 zw_m_L_190 wYX5_close wDX5_close rfl (by omega) h54 rfl (Nat.le_of_ble_eq_true rfl) (by omega) (Nat.zero_le _) (Nat.zero_le _) rfl (fun v8 τ8 h8 => ?_) (fun E8 τ8 h8 => by obtain ⟨b, hb, _⟩ := hQ2 _ _ h8; cases hb)
  obtain ⟨b, hb, hT, hJK⟩ := hQ2 _ _ h8
  cases hb
  obtain ⟨y, rfl⟩ := hT
  refine zz_istore dL_law_1222 (by decide) ?_
  have hJ8 := JK_J hJK
  obtain ⟨⟨n8, MB8, MI8, T8, rfl⟩, ⟨o8, h66, hV⟩, ⟨w8, h67, hY⟩⟩ := JK_at hJK
  refine zz_aload_n dL_law_1224 rfl ?_
  refine zz_callV1 (ci := 5) m_thrown dL_law_1225 zw_m_L_142 wYX5_thrown wDX5_thrown rfl (by omega) pm_o rfl (Nat.le_of_ble_eq_true rfl) (by decide) rfl ?_
  refine zz_iload dL_law_1228 rfl ?_
  refine zz_icmp_eq (tgt := 1235) dL_law_1230 (by decide) (fun _ => ?_) (fun h => absurd rfl h)
  refine zz_iload dL_law_1235 rfl ?_
  refine zz_if_ne (tgt := 1252) dL_law_1237 (by decide) (fun _ => ?_) (fun hk => ?_)
  · refine zz_goto (tgt := 2755) dL_law_1252 (by decide) ?_
    refine zz_lvs (lv2 := LV i) (fun q hq => by simp only [List.mem_cons, List.not_mem_nil, or_false] at hq; rcases hq with rfl | rfl | rfl | rfl | rfl | rfl <;> simp [zz_up1, zz_up2, Value.category]) ?_
    exact zz_less (by omega) (by omega) (K _ hJ8)
  · refine zz_aload_n dL_law_1240 rfl ?_
    refine zz_iconst (v := 0) dL_law_1241 (by decide) ?_
    refine zz_lald dL_law_1242 (by omega) h66 (vp_in_nI (n := 0) (N := 1) (by omega) (by omega)) ?_
    obtain ⟨y2, e1, e2⟩ := hV hk
    cases e1
    refine zz_iload dL_law_1243 rfl ?_
    refine zz_i2l dL_law_1245 rfl ?_
    refine zz_lcmp dL_law_1246 ?_
    refine zz_if_eq (tgt := 1252) dL_law_1247 (by decide) (fun _ => ?_) (fun h => absurd (cmp_e.mpr e2) h)
    refine zz_goto (tgt := 2755) dL_law_1252 (by decide) ?_
    refine zz_lvs (lv2 := LV i) (fun q hq => by simp only [List.mem_cons, List.not_mem_nil, or_false] at hq; rcases hq with rfl | rfl | rfl | rfl | rfl | rfl <;> simp [zz_up1, zz_up2, Value.category]) ?_
    exact zz_less (by omega) (by omega) (K _ hJ8)
set_option maxHeartbeats 1000000 in
set_option maxRecDepth 20000 in
theorem L_cover (hi : i + 6 ≤ L) (hL : L ≤ 3072) (hJ : JJ σ) (h1 : 1 ≤ rc) (h2 : 6 ≤ rz) (K : ∀ τ, JJ τ → zz_E mL_law (some (L, xs)) 9 (rc - 1) (rz - 6) Q 2755 (LV i) [] τ) : zz_E mL_law (some (L, xs)) 9 rc rz Q 1255 (LV i) [] σ := by
  obtain ⟨k, P1, hC, hM⟩ := a_cover hJ (xs (i + 1)) (xs (i + 2))
  refine zz_aload_n dL_law_1255 rfl ?_
  refine zz_aload_n dL_law_1256 rfl ?_
  refine zz_iload dL_law_1257 rfl ?_
  refine zz_arg (j := 1) dL_law_1259 dL_law_1260 dL_law_1261 (v := 1) (by decide) (ad_1 i) (by omega) hL ?_
  refine zz_aload_n dL_law_1262 rfl ?_
  refine zz_iload dL_law_1263 rfl ?_
  refine zz_arg (j := 2) dL_law_1265 dL_law_1266 dL_law_1267 (v := 2) (by decide) (ad_2 i) (by omega) hL ?_
  refine zz_aload_n dL_law_1268 rfl ?_
  refine zz_callSH rfl hC dL_law_1269 zw_m_L_191 wYL_cover wDL_cover rfl (Nat.le_of_ble_eq_true rfl) (by decide) h1 h2 rfl (fun v9 τ9 h9 => ?_) (fun E9 τ9 h9 => by cases h9.1)
  obtain ⟨hv, hp⟩ := h9
  cases hv
  obtain ⟨⟨fs, h54⟩, dm, Q2, hdm, hC2, hQ2⟩ := hM τ9 hp
  refine zz_istore dL_law_1272 (by decide) ?_
  refine zz_aload_n dL_law_1274 rfl ?_
  refine zz_aload_n dL_law_1275 rfl ?_
  refine zz_iload dL_law_1276 rfl ?_
  refine zz_arg (j := 1) dL_law_1278 dL_law_1279 dL_law_1280 (v := 1) (by decide) (ad_1 i) (by omega) hL ?_
  refine zz_aload_n dL_law_1281 rfl ?_
  refine zz_iload dL_law_1282 rfl ?_
  refine zz_arg (j := 2) dL_law_1284 dL_law_1285 dL_law_1286 (v := 2) (by decide) (ad_2 i) (by omega) hL ?_
  refine zz_callV (ci := 5) hC2 dL_law_1287 zw_m_L_193 wYX5_cover wDX5_cover rfl (by omega) h54 rfl (Nat.le_of_ble_eq_true rfl) (by omega) (Nat.zero_le _) (Nat.zero_le _) rfl (fun v8 τ8 h8 => ?_) (fun E8 τ8 h8 => by obtain ⟨b, hb, _⟩ := hQ2 _ _ h8; cases hb)
  obtain ⟨b, hb, hT, hJK⟩ := hQ2 _ _ h8
  cases hb
  obtain ⟨y, rfl⟩ := hT
  refine zz_istore dL_law_1290 (by decide) ?_
  have hJ8 := JK_J hJK
  obtain ⟨⟨n8, MB8, MI8, T8, rfl⟩, ⟨o8, h66, hV⟩, ⟨w8, h67, hY⟩⟩ := JK_at hJK
  refine zz_aload_n dL_law_1292 rfl ?_
  refine zz_callV1 (ci := 5) m_thrown dL_law_1293 zw_m_L_142 wYX5_thrown wDX5_thrown rfl (by omega) pm_o rfl (Nat.le_of_ble_eq_true rfl) (by decide) rfl ?_
  refine zz_iload dL_law_1296 rfl ?_
  refine zz_icmp_eq (tgt := 1303) dL_law_1298 (by decide) (fun _ => ?_) (fun h => absurd rfl h)
  refine zz_iload dL_law_1303 rfl ?_
  refine zz_if_ne (tgt := 1320) dL_law_1305 (by decide) (fun _ => ?_) (fun hk => ?_)
  · refine zz_goto (tgt := 2755) dL_law_1320 (by decide) ?_
    refine zz_lvs (lv2 := LV i) (fun q hq => by simp only [List.mem_cons, List.not_mem_nil, or_false] at hq; rcases hq with rfl | rfl | rfl | rfl | rfl | rfl <;> simp [zz_up1, zz_up2, Value.category]) ?_
    exact zz_less (by omega) (by omega) (K _ hJ8)
  · refine zz_aload_n dL_law_1308 rfl ?_
    refine zz_iconst (v := 0) dL_law_1309 (by decide) ?_
    refine zz_lald dL_law_1310 (by omega) h66 (vp_in_nI (n := 0) (N := 1) (by omega) (by omega)) ?_
    obtain ⟨y2, e1, e2⟩ := hV hk
    cases e1
    refine zz_iload dL_law_1311 rfl ?_
    refine zz_i2l dL_law_1313 rfl ?_
    refine zz_lcmp dL_law_1314 ?_
    refine zz_if_eq (tgt := 1320) dL_law_1315 (by decide) (fun _ => ?_) (fun h => absurd (cmp_e.mpr e2) h)
    refine zz_goto (tgt := 2755) dL_law_1320 (by decide) ?_
    refine zz_lvs (lv2 := LV i) (fun q hq => by simp only [List.mem_cons, List.not_mem_nil, or_false] at hq; rcases hq with rfl | rfl | rfl | rfl | rfl | rfl <;> simp [zz_up1, zz_up2, Value.category]) ?_
    exact zz_less (by omega) (by omega) (K _ hJ8)
set_option maxHeartbeats 1000000 in
set_option maxRecDepth 20000 in
theorem L_has (hi : i + 6 ≤ L) (hL : L ≤ 3072) (hJ : JJ σ) (h1 : 1 ≤ rc) (h2 : 6 ≤ rz) (K : ∀ τ, JJ τ → zz_E mL_law (some (L, xs)) 9 (rc - 1) (rz - 6) Q 2755 (LV i) [] τ) : zz_E mL_law (some (L, xs)) 9 rc rz Q 1323 (LV i) [] σ := by
  obtain ⟨k, P1, hC, hM⟩ := a_has hJ (xs (i + 1)) (xs (i + 2)) (xs (i + 3))
  refine zz_aload_n dL_law_1323 rfl ?_
  refine zz_aload_n dL_law_1324 rfl ?_
  refine zz_iload dL_law_1325 rfl ?_
  refine zz_arg (j := 1) dL_law_1327 dL_law_1328 dL_law_1329 (v := 1) (by decide) (ad_1 i) (by omega) hL ?_
  refine zz_aload_n dL_law_1330 rfl ?_
  refine zz_iload dL_law_1331 rfl ?_
  refine zz_arg (j := 2) dL_law_1333 dL_law_1334 dL_law_1335 (v := 2) (by decide) (ad_2 i) (by omega) hL ?_
  refine zz_aload_n dL_law_1336 rfl ?_
  refine zz_iload dL_law_1337 rfl ?_
  refine zz_arg (j := 3) dL_law_1339 dL_law_1340 dL_law_1341 (v := 3) (by decide) (ad_3 i) (by omega) hL ?_
  refine zz_aload_n dL_law_1342 rfl ?_
  refine zz_callSH rfl hC dL_law_1343 zw_m_L_194 wYL_has wDL_has rfl (Nat.le_of_ble_eq_true rfl) (by decide) h1 h2 rfl (fun v9 τ9 h9 => ?_) (fun E9 τ9 h9 => by cases h9.1)
  obtain ⟨hv, hp⟩ := h9
  cases hv
  obtain ⟨⟨fs, h54⟩, dm, Q2, hdm, hC2, hQ2⟩ := hM τ9 hp
  refine zz_istore dL_law_1346 (by decide) ?_
  refine zz_aload_n dL_law_1348 rfl ?_
  refine zz_aload_n dL_law_1349 rfl ?_
  refine zz_iload dL_law_1350 rfl ?_
  refine zz_arg (j := 1) dL_law_1352 dL_law_1353 dL_law_1354 (v := 1) (by decide) (ad_1 i) (by omega) hL ?_
  refine zz_aload_n dL_law_1355 rfl ?_
  refine zz_iload dL_law_1356 rfl ?_
  refine zz_arg (j := 2) dL_law_1358 dL_law_1359 dL_law_1360 (v := 2) (by decide) (ad_2 i) (by omega) hL ?_
  refine zz_aload_n dL_law_1361 rfl ?_
  refine zz_iload dL_law_1362 rfl ?_
  refine zz_arg (j := 3) dL_law_1364 dL_law_1365 dL_law_1366 (v := 3) (by decide) (ad_3 i) (by omega) hL ?_
  refine zz_callV (ci := 5) hC2 dL_law_1367 zw_m_L_196 wYX5_has wDX5_has rfl (by omega) h54 rfl (Nat.le_of_ble_eq_true rfl) (by omega) (Nat.zero_le _) (Nat.zero_le _) rfl (fun v8 τ8 h8 => ?_) (fun E8 τ8 h8 => by obtain ⟨b, hb, _⟩ := hQ2 _ _ h8; cases hb)
  obtain ⟨b, hb, hT, hJK⟩ := hQ2 _ _ h8
  cases hb
  obtain ⟨y, rfl⟩ := hT
  refine zz_istore dL_law_1370 (by decide) ?_
  have hJ8 := JK_J hJK
  obtain ⟨⟨n8, MB8, MI8, T8, rfl⟩, ⟨o8, h66, hV⟩, ⟨w8, h67, hY⟩⟩ := JK_at hJK
  refine zz_aload_n dL_law_1372 rfl ?_
  refine zz_callV1 (ci := 5) m_thrown dL_law_1373 zw_m_L_142 wYX5_thrown wDX5_thrown rfl (by omega) pm_o rfl (Nat.le_of_ble_eq_true rfl) (by decide) rfl ?_
  refine zz_iload dL_law_1376 rfl ?_
  refine zz_icmp_eq (tgt := 1383) dL_law_1378 (by decide) (fun _ => ?_) (fun h => absurd rfl h)
  refine zz_iload dL_law_1383 rfl ?_
  refine zz_if_ne (tgt := 1407) dL_law_1385 (by decide) (fun _ => ?_) (fun hk => ?_)
  · refine zz_goto (tgt := 2755) dL_law_1407 (by decide) ?_
    refine zz_lvs (lv2 := LV i) (fun q hq => by simp only [List.mem_cons, List.not_mem_nil, or_false] at hq; rcases hq with rfl | rfl | rfl | rfl | rfl | rfl <;> simp [zz_up1, zz_up2, Value.category]) ?_
    exact zz_less (by omega) (by omega) (K _ hJ8)
  · refine zz_aload_n dL_law_1388 rfl ?_
    refine zz_iconst (v := 0) dL_law_1389 (by decide) ?_
    refine zz_lald dL_law_1390 (by omega) h66 (vp_in_nI (n := 0) (N := 1) (by omega) (by omega)) ?_
    obtain ⟨y2, e1, e2⟩ := hV hk
    have e3 : y = y2 := zB_inj.mp (by injection e1)
    subst e3
    refine zz_iload dL_law_1391 rfl ?_
    refine zz_nzL dL_law_1393 dL_law_1396 dL_law_1397 dL_law_1400 ?_
    refine zz_lcmp dL_law_1401 ?_
    refine zz_if_eq (tgt := 1407) dL_law_1402 (by decide) (fun _ => ?_) (fun h => absurd (cmp_e.mpr e2) h)
    refine zz_goto (tgt := 2755) dL_law_1407 (by decide) ?_
    refine zz_lvs (lv2 := LV i) (fun q hq => by simp only [List.mem_cons, List.not_mem_nil, or_false] at hq; rcases hq with rfl | rfl | rfl | rfl | rfl | rfl <;> simp [zz_up1, zz_up2, Value.category]) ?_
    exact zz_less (by omega) (by omega) (K _ hJ8)
set_option maxHeartbeats 1000000 in
set_option maxRecDepth 20000 in
theorem L_count (hi : i + 6 ≤ L) (hL : L ≤ 3072) (hJ : JJ σ) (h1 : 1 ≤ rc) (h2 : 6 ≤ rz) (K : ∀ τ, JJ τ → zz_E mL_law (some (L, xs)) 9 (rc - 1) (rz - 6) Q 2755 (LV i) [] τ) : zz_E mL_law (some (L, xs)) 9 rc rz Q 1410 (LV i) [] σ := by
  obtain ⟨k, P1, hC, hM⟩ := a_count hJ (xs (i + 1))
  refine zz_aload_n dL_law_1410 rfl ?_
  refine zz_aload_n dL_law_1411 rfl ?_
  refine zz_iload dL_law_1412 rfl ?_
  refine zz_arg (j := 1) dL_law_1414 dL_law_1415 dL_law_1416 (v := 1) (by decide) (ad_1 i) (by omega) hL ?_
  refine zz_aload_n dL_law_1417 rfl ?_
  refine zz_callSH rfl hC dL_law_1418 zw_m_L_197 wYL_count wDL_count rfl (Nat.le_of_ble_eq_true rfl) (by decide) h1 h2 rfl (fun v9 τ9 h9 => ?_) (fun E9 τ9 h9 => by cases h9.1)
  obtain ⟨hv, hp⟩ := h9
  cases hv
  obtain ⟨⟨fs, h54⟩, dm, Q2, hdm, hC2, hQ2⟩ := hM τ9 hp
  refine zz_istore dL_law_1421 (by decide) ?_
  refine zz_aload_n dL_law_1423 rfl ?_
  refine zz_aload_n dL_law_1424 rfl ?_
  refine zz_iload dL_law_1425 rfl ?_
  refine zz_arg (j := 1) dL_law_1427 dL_law_1428 dL_law_1429 (v := 1) (by decide) (ad_1 i) (by omega) hL ?_
  refine zz_callV (ci := 5) hC2 dL_law_1430 zw_m_L_199 wYX5_count wDX5_count rfl (by omega) h54 rfl (Nat.le_of_ble_eq_true rfl) (by omega) (Nat.zero_le _) (Nat.zero_le _) rfl (fun v8 τ8 h8 => ?_) (fun E8 τ8 h8 => by obtain ⟨b, hb, _⟩ := hQ2 _ _ h8; cases hb)
  obtain ⟨b, hb, hT, hJK⟩ := hQ2 _ _ h8
  cases hb
  obtain ⟨y, rfl⟩ := hT
  refine zz_istore dL_law_1433 (by decide) ?_
  have hJ8 := JK_J hJK
  obtain ⟨⟨n8, MB8, MI8, T8, rfl⟩, ⟨o8, h66, hV⟩, ⟨w8, h67, hY⟩⟩ := JK_at hJK
  refine zz_aload_n dL_law_1435 rfl ?_
  refine zz_callV1 (ci := 5) m_thrown dL_law_1436 zw_m_L_142 wYX5_thrown wDX5_thrown rfl (by omega) pm_o rfl (Nat.le_of_ble_eq_true rfl) (by decide) rfl ?_
  refine zz_iload dL_law_1439 rfl ?_
  refine zz_icmp_eq (tgt := 1446) dL_law_1441 (by decide) (fun _ => ?_) (fun h => absurd rfl h)
  refine zz_iload dL_law_1446 rfl ?_
  refine zz_if_ne (tgt := 1463) dL_law_1448 (by decide) (fun _ => ?_) (fun hk => ?_)
  · refine zz_goto (tgt := 2755) dL_law_1463 (by decide) ?_
    refine zz_lvs (lv2 := LV i) (fun q hq => by simp only [List.mem_cons, List.not_mem_nil, or_false] at hq; rcases hq with rfl | rfl | rfl | rfl | rfl | rfl <;> simp [zz_up1, zz_up2, Value.category]) ?_
    exact zz_less (by omega) (by omega) (K _ hJ8)
  · refine zz_aload_n dL_law_1451 rfl ?_
    refine zz_iconst (v := 0) dL_law_1452 (by decide) ?_
    refine zz_lald dL_law_1453 (by omega) h66 (vp_in_nI (n := 0) (N := 1) (by omega) (by omega)) ?_
    obtain ⟨y2, e1, e2⟩ := hV hk
    cases e1
    refine zz_iload dL_law_1454 rfl ?_
    refine zz_i2l dL_law_1456 rfl ?_
    refine zz_lcmp dL_law_1457 ?_
    refine zz_if_eq (tgt := 1463) dL_law_1458 (by decide) (fun _ => ?_) (fun h => absurd (cmp_e.mpr e2) h)
    refine zz_goto (tgt := 2755) dL_law_1463 (by decide) ?_
    refine zz_lvs (lv2 := LV i) (fun q hq => by simp only [List.mem_cons, List.not_mem_nil, or_false] at hq; rcases hq with rfl | rfl | rfl | rfl | rfl | rfl <;> simp [zz_up1, zz_up2, Value.category]) ?_
    exact zz_less (by omega) (by omega) (K _ hJ8)
set_option maxHeartbeats 1000000 in
set_option maxRecDepth 20000 in
theorem L_countOf (hi : i + 6 ≤ L) (hL : L ≤ 3072) (hJ : JJ σ) (h1 : 1 ≤ rc) (h2 : 6 ≤ rz) (K : ∀ τ, JJ τ → zz_E mL_law (some (L, xs)) 9 (rc - 1) (rz - 6) Q 2755 (LV i) [] τ) : zz_E mL_law (some (L, xs)) 9 rc rz Q 1466 (LV i) [] σ := by
  obtain ⟨k, P1, hC, hM⟩ := a_countOf hJ (xs (i + 1)) (xs (i + 2))
  refine zz_aload_n dL_law_1466 rfl ?_
  refine zz_aload_n dL_law_1467 rfl ?_
  refine zz_iload dL_law_1468 rfl ?_
  refine zz_arg (j := 1) dL_law_1470 dL_law_1471 dL_law_1472 (v := 1) (by decide) (ad_1 i) (by omega) hL ?_
  refine zz_aload_n dL_law_1473 rfl ?_
  refine zz_iload dL_law_1474 rfl ?_
  refine zz_arg (j := 2) dL_law_1476 dL_law_1477 dL_law_1478 (v := 2) (by decide) (ad_2 i) (by omega) hL ?_
  refine zz_aload_n dL_law_1479 rfl ?_
  refine zz_callSH rfl hC dL_law_1480 zw_m_L_200 wYL_countOf wDL_countOf rfl (Nat.le_of_ble_eq_true rfl) (by decide) h1 h2 rfl (fun v9 τ9 h9 => ?_) (fun E9 τ9 h9 => by cases h9.1)
  obtain ⟨hv, hp⟩ := h9
  cases hv
  obtain ⟨⟨fs, h54⟩, dm, Q2, hdm, hC2, hQ2⟩ := hM τ9 hp
  refine zz_istore dL_law_1483 (by decide) ?_
  refine zz_aload_n dL_law_1485 rfl ?_
  refine zz_aload_n dL_law_1486 rfl ?_
  refine zz_iload dL_law_1487 rfl ?_
  refine zz_arg (j := 1) dL_law_1489 dL_law_1490 dL_law_1491 (v := 1) (by decide) (ad_1 i) (by omega) hL ?_
  refine zz_aload_n dL_law_1492 rfl ?_
  refine zz_iload dL_law_1493 rfl ?_
  refine zz_arg (j := 2) dL_law_1495 dL_law_1496 dL_law_1497 (v := 2) (by decide) (ad_2 i) (by omega) hL ?_
  refine zz_callV (ci := 5) hC2 dL_law_1498 zw_m_L_202 wYX5_countOf wDX5_countOf rfl (by omega) h54 rfl (Nat.le_of_ble_eq_true rfl) (by omega) (Nat.zero_le _) (Nat.zero_le _) rfl (fun v8 τ8 h8 => ?_) (fun E8 τ8 h8 => by obtain ⟨b, hb, _⟩ := hQ2 _ _ h8; cases hb)
  obtain ⟨b, hb, hT, hJK⟩ := hQ2 _ _ h8
  cases hb
  obtain ⟨y, rfl⟩ := hT
  refine zz_istore dL_law_1501 (by decide) ?_
  have hJ8 := JK_J hJK
  obtain ⟨⟨n8, MB8, MI8, T8, rfl⟩, ⟨o8, h66, hV⟩, ⟨w8, h67, hY⟩⟩ := JK_at hJK
  refine zz_aload_n dL_law_1503 rfl ?_
  refine zz_callV1 (ci := 5) m_thrown dL_law_1504 zw_m_L_142 wYX5_thrown wDX5_thrown rfl (by omega) pm_o rfl (Nat.le_of_ble_eq_true rfl) (by decide) rfl ?_
  refine zz_iload dL_law_1507 rfl ?_
  refine zz_icmp_eq (tgt := 1514) dL_law_1509 (by decide) (fun _ => ?_) (fun h => absurd rfl h)
  refine zz_iload dL_law_1514 rfl ?_
  refine zz_if_ne (tgt := 1531) dL_law_1516 (by decide) (fun _ => ?_) (fun hk => ?_)
  · refine zz_goto (tgt := 2755) dL_law_1531 (by decide) ?_
    refine zz_lvs (lv2 := LV i) (fun q hq => by simp only [List.mem_cons, List.not_mem_nil, or_false] at hq; rcases hq with rfl | rfl | rfl | rfl | rfl | rfl <;> simp [zz_up1, zz_up2, Value.category]) ?_
    exact zz_less (by omega) (by omega) (K _ hJ8)
  · refine zz_aload_n dL_law_1519 rfl ?_
    refine zz_iconst (v := 0) dL_law_1520 (by decide) ?_
    refine zz_lald dL_law_1521 (by omega) h66 (vp_in_nI (n := 0) (N := 1) (by omega) (by omega)) ?_
    obtain ⟨y2, e1, e2⟩ := hV hk
    cases e1
    refine zz_iload dL_law_1522 rfl ?_
    refine zz_i2l dL_law_1524 rfl ?_
    refine zz_lcmp dL_law_1525 ?_
    refine zz_if_eq (tgt := 1531) dL_law_1526 (by decide) (fun _ => ?_) (fun h => absurd (cmp_e.mpr e2) h)
    refine zz_goto (tgt := 2755) dL_law_1531 (by decide) ?_
    refine zz_lvs (lv2 := LV i) (fun q hq => by simp only [List.mem_cons, List.not_mem_nil, or_false] at hq; rcases hq with rfl | rfl | rfl | rfl | rfl | rfl <;> simp [zz_up1, zz_up2, Value.category]) ?_
    exact zz_less (by omega) (by omega) (K _ hJ8)
set_option maxHeartbeats 1000000 in
set_option maxRecDepth 20000 in
theorem L_beside (hi : i + 6 ≤ L) (hL : L ≤ 3072) (hJ : JJ σ) (h1 : 1 ≤ rc) (h2 : 6 ≤ rz) (K : ∀ τ, JJ τ → zz_E mL_law (some (L, xs)) 9 (rc - 1) (rz - 6) Q 2755 (LV i) [] τ) : zz_E mL_law (some (L, xs)) 9 rc rz Q 1534 (LV i) [] σ := by
  obtain ⟨k, P1, hC, hM⟩ := a_beside hJ (xs (i + 1)) (xs (i + 2)) (xs (i + 3)) (xs (i + 4))
  refine zz_aload_n dL_law_1534 rfl ?_
  refine zz_aload_n dL_law_1535 rfl ?_
  refine zz_iload dL_law_1536 rfl ?_
  refine zz_arg (j := 1) dL_law_1538 dL_law_1539 dL_law_1540 (v := 1) (by decide) (ad_1 i) (by omega) hL ?_
  refine zz_aload_n dL_law_1541 rfl ?_
  refine zz_iload dL_law_1542 rfl ?_
  refine zz_arg (j := 2) dL_law_1544 dL_law_1545 dL_law_1546 (v := 2) (by decide) (ad_2 i) (by omega) hL ?_
  refine zz_aload_n dL_law_1547 rfl ?_
  refine zz_iload dL_law_1548 rfl ?_
  refine zz_arg (j := 3) dL_law_1550 dL_law_1551 dL_law_1552 (v := 3) (by decide) (ad_3 i) (by omega) hL ?_
  refine zz_aload_n dL_law_1553 rfl ?_
  refine zz_iload dL_law_1554 rfl ?_
  refine zz_arg (j := 4) dL_law_1556 dL_law_1557 dL_law_1558 (v := 4) (by decide) (ad_4 i) (by omega) hL ?_
  refine zz_aload_n dL_law_1559 rfl ?_
  refine zz_callSH rfl hC dL_law_1560 zw_m_L_203 wYL_beside wDL_beside rfl (Nat.le_of_ble_eq_true rfl) (by decide) h1 h2 rfl (fun v9 τ9 h9 => ?_) (fun E9 τ9 h9 => by cases h9.1)
  obtain ⟨hv, hp⟩ := h9
  cases hv
  obtain ⟨⟨fs, h54⟩, dm, Q2, hdm, hC2, hQ2⟩ := hM τ9 hp
  refine zz_istore dL_law_1563 (by decide) ?_
  refine zz_aload_n dL_law_1565 rfl ?_
  refine zz_aload_n dL_law_1566 rfl ?_
  refine zz_iload dL_law_1567 rfl ?_
  refine zz_arg (j := 1) dL_law_1569 dL_law_1570 dL_law_1571 (v := 1) (by decide) (ad_1 i) (by omega) hL ?_
  refine zz_aload_n dL_law_1572 rfl ?_
  refine zz_iload dL_law_1573 rfl ?_
  refine zz_arg (j := 2) dL_law_1575 dL_law_1576 dL_law_1577 (v := 2) (by decide) (ad_2 i) (by omega) hL ?_
  refine zz_aload_n dL_law_1578 rfl ?_
  refine zz_iload dL_law_1579 rfl ?_
  refine zz_arg (j := 3) dL_law_1581 dL_law_1582 dL_law_1583 (v := 3) (by decide) (ad_3 i) (by omega) hL ?_
  refine zz_aload_n dL_law_1584 rfl ?_
  refine zz_iload dL_law_1585 rfl ?_
  refine zz_arg (j := 4) dL_law_1587 dL_law_1588 dL_law_1589 (v := 4) (by decide) (ad_4 i) (by omega) hL ?_
  refine zz_callV (ci := 5) hC2 dL_law_1590 zw_m_L_205 wYX5_beside wDX5_beside rfl (by omega) h54 rfl (Nat.le_of_ble_eq_true rfl) (by omega) (Nat.zero_le _) (Nat.zero_le _) rfl (fun v8 τ8 h8 => ?_) (fun E8 τ8 h8 => by obtain ⟨b, hb, _⟩ := hQ2 _ _ h8; cases hb)
  obtain ⟨b, hb, hT, hJK⟩ := hQ2 _ _ h8
  cases hb
  obtain ⟨y, rfl⟩ := hT
  refine zz_istore dL_law_1593 (by decide) ?_
  have hJ8 := JK_J hJK
  obtain ⟨⟨n8, MB8, MI8, T8, rfl⟩, ⟨o8, h66, hV⟩, ⟨w8, h67, hY⟩⟩ := JK_at hJK
  refine zz_aload_n dL_law_1595 rfl ?_
  refine zz_callV1 (ci := 5) m_thrown dL_law_1596 zw_m_L_142 wYX5_thrown wDX5_thrown rfl (by omega) pm_o rfl (Nat.le_of_ble_eq_true rfl) (by decide) rfl ?_
  refine zz_iload dL_law_1599 rfl ?_
  refine zz_icmp_eq (tgt := 1606) dL_law_1601 (by decide) (fun _ => ?_) (fun h => absurd rfl h)
  refine zz_iload dL_law_1606 rfl ?_
  refine zz_if_ne (tgt := 1623) dL_law_1608 (by decide) (fun _ => ?_) (fun hk => ?_)
  · refine zz_goto (tgt := 2755) dL_law_1623 (by decide) ?_
    refine zz_lvs (lv2 := LV i) (fun q hq => by simp only [List.mem_cons, List.not_mem_nil, or_false] at hq; rcases hq with rfl | rfl | rfl | rfl | rfl | rfl <;> simp [zz_up1, zz_up2, Value.category]) ?_
    exact zz_less (by omega) (by omega) (K _ hJ8)
  · refine zz_aload_n dL_law_1611 rfl ?_
    refine zz_iconst (v := 0) dL_law_1612 (by decide) ?_
    refine zz_lald dL_law_1613 (by omega) h66 (vp_in_nI (n := 0) (N := 1) (by omega) (by omega)) ?_
    obtain ⟨y2, e1, e2⟩ := hV hk
    cases e1
    refine zz_iload dL_law_1614 rfl ?_
    refine zz_i2l dL_law_1616 rfl ?_
    refine zz_lcmp dL_law_1617 ?_
    refine zz_if_eq (tgt := 1623) dL_law_1618 (by decide) (fun _ => ?_) (fun h => absurd (cmp_e.mpr e2) h)
    refine zz_goto (tgt := 2755) dL_law_1623 (by decide) ?_
    refine zz_lvs (lv2 := LV i) (fun q hq => by simp only [List.mem_cons, List.not_mem_nil, or_false] at hq; rcases hq with rfl | rfl | rfl | rfl | rfl | rfl <;> simp [zz_up1, zz_up2, Value.category]) ?_
    exact zz_less (by omega) (by omega) (K _ hJ8)
set_option maxHeartbeats 1000000 in
set_option maxRecDepth 20000 in
theorem L_wordOf (hi : i + 6 ≤ L) (hL : L ≤ 3072) (hJ : JJ σ) (h1 : 1 ≤ rc) (h2 : 6 ≤ rz) (K : ∀ τ, JJ τ → zz_E mL_law (some (L, xs)) 9 (rc - 1) (rz - 6) Q 2755 (LV i) [] τ) : zz_E mL_law (some (L, xs)) 9 rc rz Q 1626 (LV i) [] σ := by
  obtain ⟨k, P1, hC, hM⟩ := a_wordOf hJ (xs (i + 1)) (xs (i + 2)) (xs (i + 3))
  refine zz_aload_n dL_law_1626 rfl ?_
  refine zz_aload_n dL_law_1627 rfl ?_
  refine zz_iload dL_law_1628 rfl ?_
  refine zz_arg (j := 1) dL_law_1630 dL_law_1631 dL_law_1632 (v := 1) (by decide) (ad_1 i) (by omega) hL ?_
  refine zz_aload_n dL_law_1633 rfl ?_
  refine zz_iload dL_law_1634 rfl ?_
  refine zz_arg (j := 2) dL_law_1636 dL_law_1637 dL_law_1638 (v := 2) (by decide) (ad_2 i) (by omega) hL ?_
  refine zz_aload_n dL_law_1639 rfl ?_
  refine zz_iload dL_law_1640 rfl ?_
  refine zz_arg (j := 3) dL_law_1642 dL_law_1643 dL_law_1644 (v := 3) (by decide) (ad_3 i) (by omega) hL ?_
  refine zz_aload_n dL_law_1645 rfl ?_
  refine zz_callSH rfl hC dL_law_1646 zw_m_L_206 wYL_wordOf wDL_wordOf rfl (Nat.le_of_ble_eq_true rfl) (by decide) h1 h2 rfl (fun v9 τ9 h9 => ?_) (fun E9 τ9 h9 => by cases h9.1)
  obtain ⟨hv, hp⟩ := h9
  cases hv
  obtain ⟨⟨fs, h54⟩, dm, Q2, hdm, hC2, hQ2⟩ := hM τ9 hp
  refine zz_istore dL_law_1649 (by decide) ?_
  refine zz_aload_n dL_law_1651 rfl ?_
  refine zz_aload_n dL_law_1652 rfl ?_
  refine zz_iload dL_law_1653 rfl ?_
  refine zz_arg (j := 1) dL_law_1655 dL_law_1656 dL_law_1657 (v := 1) (by decide) (ad_1 i) (by omega) hL ?_
  refine zz_aload_n dL_law_1658 rfl ?_
  refine zz_iload dL_law_1659 rfl ?_
  refine zz_arg (j := 2) dL_law_1661 dL_law_1662 dL_law_1663 (v := 2) (by decide) (ad_2 i) (by omega) hL ?_
  refine zz_aload_n dL_law_1664 rfl ?_
  refine zz_iload dL_law_1665 rfl ?_
  refine zz_arg (j := 3) dL_law_1667 dL_law_1668 dL_law_1669 (v := 3) (by decide) (ad_3 i) (by omega) hL ?_
  refine zz_callV (ci := 5) hC2 dL_law_1670 zw_m_L_208 wYX5_wordOf wDX5_wordOf rfl (by omega) h54 rfl (Nat.le_of_ble_eq_true rfl) (by omega) (Nat.zero_le _) (Nat.zero_le _) rfl (fun v8 τ8 h8 => ?_) (fun E8 τ8 h8 => by obtain ⟨b, hb, _⟩ := hQ2 _ _ h8; cases hb)
  obtain ⟨b, hb, hT, hJK⟩ := hQ2 _ _ h8
  cases hb
  obtain ⟨y, rfl⟩ := hT
  refine zz_lstore dL_law_1673 (by decide) ?_
  have hJ8 := JK_J hJK
  obtain ⟨⟨n8, MB8, MI8, T8, rfl⟩, ⟨o8, h66, hV⟩, ⟨w8, h67, hY⟩⟩ := JK_at hJK
  refine zz_aload_n dL_law_1675 rfl ?_
  refine zz_callV1 (ci := 5) m_thrown dL_law_1676 zw_m_L_142 wYX5_thrown wDX5_thrown rfl (by omega) pm_o rfl (Nat.le_of_ble_eq_true rfl) (by decide) rfl ?_
  refine zz_iload dL_law_1679 rfl ?_
  refine zz_icmp_eq (tgt := 1686) dL_law_1681 (by decide) (fun _ => ?_) (fun h => absurd rfl h)
  refine zz_iload dL_law_1686 rfl ?_
  refine zz_if_ne (tgt := 1702) dL_law_1688 (by decide) (fun _ => ?_) (fun hk => ?_)
  · refine zz_goto (tgt := 2755) dL_law_1702 (by decide) ?_
    refine zz_lvs (lv2 := LV i) (fun q hq => by simp only [List.mem_cons, List.not_mem_nil, or_false] at hq; rcases hq with rfl | rfl | rfl | rfl | rfl | rfl <;> simp [zz_up1, zz_up2, Value.category]) ?_
    exact zz_less (by omega) (by omega) (K _ hJ8)
  · refine zz_aload_n dL_law_1691 rfl ?_
    refine zz_iconst (v := 0) dL_law_1692 (by decide) ?_
    refine zz_lald dL_law_1693 (by omega) h66 (vp_in_nI (n := 0) (N := 1) (by omega) (by omega)) ?_
    have e2 := hV hk
    replace e2 : y = o8 0 := by injection e2
    refine zz_lload dL_law_1694 rfl ?_
    refine zz_lcmp dL_law_1696 ?_
    refine zz_if_eq (tgt := 1702) dL_law_1697 (by decide) (fun _ => ?_) (fun h => absurd (cmp_e.mpr e2.symm) h)
    refine zz_goto (tgt := 2755) dL_law_1702 (by decide) ?_
    refine zz_lvs (lv2 := LV i) (fun q hq => by simp only [List.mem_cons, List.not_mem_nil, or_false] at hq; rcases hq with rfl | rfl | rfl | rfl | rfl | rfl <;> simp [zz_up1, zz_up2, Value.category]) ?_
    exact zz_less (by omega) (by omega) (K _ hJ8)
set_option maxHeartbeats 1000000 in
set_option maxRecDepth 20000 in
theorem L_meet (hi : i + 6 ≤ L) (hL : L ≤ 3072) (hJ : JJ σ) (h1 : 1 ≤ rc) (h2 : 6 ≤ rz) (K : ∀ τ, JJ τ → zz_E mL_law (some (L, xs)) 9 (rc - 1) (rz - 6) Q 2755 (LV i) [] τ) : zz_E mL_law (some (L, xs)) 9 rc rz Q 1705 (LV i) [] σ := by
  obtain ⟨k, P1, hC, hM⟩ := a_meet hJ (xs (i + 1)) (xs (i + 2)) (xs (i + 3)) (xs (i + 4))
  refine zz_aload_n dL_law_1705 rfl ?_
  refine zz_aload_n dL_law_1706 rfl ?_
  refine zz_iload dL_law_1707 rfl ?_
  refine zz_arg (j := 1) dL_law_1709 dL_law_1710 dL_law_1711 (v := 1) (by decide) (ad_1 i) (by omega) hL ?_
  refine zz_aload_n dL_law_1712 rfl ?_
  refine zz_iload dL_law_1713 rfl ?_
  refine zz_arg (j := 2) dL_law_1715 dL_law_1716 dL_law_1717 (v := 2) (by decide) (ad_2 i) (by omega) hL ?_
  refine zz_aload_n dL_law_1718 rfl ?_
  refine zz_iload dL_law_1719 rfl ?_
  refine zz_arg (j := 3) dL_law_1721 dL_law_1722 dL_law_1723 (v := 3) (by decide) (ad_3 i) (by omega) hL ?_
  refine zz_aload_n dL_law_1724 rfl ?_
  refine zz_iload dL_law_1725 rfl ?_
  refine zz_arg (j := 4) dL_law_1727 dL_law_1728 dL_law_1729 (v := 4) (by decide) (ad_4 i) (by omega) hL ?_
  refine zz_aload_n dL_law_1730 rfl ?_
  refine zz_callSH rfl hC dL_law_1731 zw_m_L_209 wYL_meet wDL_meet rfl (Nat.le_of_ble_eq_true rfl) (by decide) h1 h2 rfl (fun v9 τ9 h9 => ?_) (fun E9 τ9 h9 => by cases h9.1)
  obtain ⟨hv, hp⟩ := h9
  cases hv
  obtain ⟨⟨fs, h54⟩, dm, Q2, hdm, hC2, hQ2⟩ := hM τ9 hp
  refine zz_istore dL_law_1734 (by decide) ?_
  refine zz_aload_n dL_law_1736 rfl ?_
  refine zz_aload_n dL_law_1737 rfl ?_
  refine zz_iload dL_law_1738 rfl ?_
  refine zz_arg (j := 1) dL_law_1740 dL_law_1741 dL_law_1742 (v := 1) (by decide) (ad_1 i) (by omega) hL ?_
  refine zz_aload_n dL_law_1743 rfl ?_
  refine zz_iload dL_law_1744 rfl ?_
  refine zz_arg (j := 2) dL_law_1746 dL_law_1747 dL_law_1748 (v := 2) (by decide) (ad_2 i) (by omega) hL ?_
  refine zz_aload_n dL_law_1749 rfl ?_
  refine zz_iload dL_law_1750 rfl ?_
  refine zz_arg (j := 3) dL_law_1752 dL_law_1753 dL_law_1754 (v := 3) (by decide) (ad_3 i) (by omega) hL ?_
  refine zz_aload_n dL_law_1755 rfl ?_
  refine zz_iload dL_law_1756 rfl ?_
  refine zz_arg (j := 4) dL_law_1758 dL_law_1759 dL_law_1760 (v := 4) (by decide) (ad_4 i) (by omega) hL ?_
  refine zz_callV (ci := 5) hC2 dL_law_1761 zw_m_L_211 wYX5_meet wDX5_meet rfl (by omega) h54 rfl (Nat.le_of_ble_eq_true rfl) (by omega) (Nat.zero_le _) (Nat.zero_le _) rfl (fun v8 τ8 h8 => ?_) (fun E8 τ8 h8 => by obtain ⟨b, hb, _⟩ := hQ2 _ _ h8; cases hb)
  obtain ⟨b, hb, hT, hJK⟩ := hQ2 _ _ h8
  cases hb
  obtain ⟨y, rfl⟩ := hT
  refine zz_istore dL_law_1764 (by decide) ?_
  have hJ8 := JK_J hJK
  obtain ⟨⟨n8, MB8, MI8, T8, rfl⟩, ⟨o8, h66, hV⟩, ⟨w8, h67, hY⟩⟩ := JK_at hJK
  refine zz_aload_n dL_law_1766 rfl ?_
  refine zz_callV1 (ci := 5) m_thrown dL_law_1767 zw_m_L_142 wYX5_thrown wDX5_thrown rfl (by omega) pm_o rfl (Nat.le_of_ble_eq_true rfl) (by decide) rfl ?_
  refine zz_iload dL_law_1770 rfl ?_
  refine zz_icmp_eq (tgt := 1777) dL_law_1772 (by decide) (fun _ => ?_) (fun h => absurd rfl h)
  refine zz_iload dL_law_1777 rfl ?_
  refine zz_if_ne (tgt := 1801) dL_law_1779 (by decide) (fun _ => ?_) (fun hk => ?_)
  · refine zz_goto (tgt := 2755) dL_law_1801 (by decide) ?_
    refine zz_lvs (lv2 := LV i) (fun q hq => by simp only [List.mem_cons, List.not_mem_nil, or_false] at hq; rcases hq with rfl | rfl | rfl | rfl | rfl | rfl <;> simp [zz_up1, zz_up2, Value.category]) ?_
    exact zz_less (by omega) (by omega) (K _ hJ8)
  · refine zz_aload_n dL_law_1782 rfl ?_
    refine zz_iconst (v := 0) dL_law_1783 (by decide) ?_
    refine zz_lald dL_law_1784 (by omega) h66 (vp_in_nI (n := 0) (N := 1) (by omega) (by omega)) ?_
    obtain ⟨y2, e1, e2⟩ := hV hk
    have e3 : y = y2 := zB_inj.mp (by injection e1)
    subst e3
    refine zz_iload dL_law_1785 rfl ?_
    refine zz_nzL dL_law_1787 dL_law_1790 dL_law_1791 dL_law_1794 ?_
    refine zz_lcmp dL_law_1795 ?_
    refine zz_if_eq (tgt := 1801) dL_law_1796 (by decide) (fun _ => ?_) (fun h => absurd (cmp_e.mpr e2) h)
    refine zz_goto (tgt := 2755) dL_law_1801 (by decide) ?_
    refine zz_lvs (lv2 := LV i) (fun q hq => by simp only [List.mem_cons, List.not_mem_nil, or_false] at hq; rcases hq with rfl | rfl | rfl | rfl | rfl | rfl <;> simp [zz_up1, zz_up2, Value.category]) ?_
    exact zz_less (by omega) (by omega) (K _ hJ8)
set_option maxHeartbeats 1000000 in
set_option maxRecDepth 20000 in
theorem L_compare (hi : i + 6 ≤ L) (hL : L ≤ 3072) (hJ : JJ σ) (h1 : 1 ≤ rc) (h2 : 6 ≤ rz) (K : ∀ τ, JJ τ → zz_E mL_law (some (L, xs)) 9 (rc - 1) (rz - 6) Q 2755 (LV i) [] τ) : zz_E mL_law (some (L, xs)) 9 rc rz Q 1804 (LV i) [] σ := by
  obtain ⟨k, P1, hC, hM⟩ := a_compare hJ (xs (i + 1)) (xs (i + 2))
  refine zz_aload_n dL_law_1804 rfl ?_
  refine zz_aload_n dL_law_1805 rfl ?_
  refine zz_iload dL_law_1806 rfl ?_
  refine zz_arg (j := 1) dL_law_1808 dL_law_1809 dL_law_1810 (v := 1) (by decide) (ad_1 i) (by omega) hL ?_
  refine zz_aload_n dL_law_1811 rfl ?_
  refine zz_iload dL_law_1812 rfl ?_
  refine zz_arg (j := 2) dL_law_1814 dL_law_1815 dL_law_1816 (v := 2) (by decide) (ad_2 i) (by omega) hL ?_
  refine zz_aload_n dL_law_1817 rfl ?_
  refine zz_callSH rfl hC dL_law_1818 zw_m_L_212 wYL_compare wDL_compare rfl (Nat.le_of_ble_eq_true rfl) (by decide) h1 h2 rfl (fun v9 τ9 h9 => ?_) (fun E9 τ9 h9 => by cases h9.1)
  obtain ⟨hv, hp⟩ := h9
  cases hv
  obtain ⟨⟨fs, h54⟩, dm, Q2, hdm, hC2, hQ2⟩ := hM τ9 hp
  refine zz_istore dL_law_1821 (by decide) ?_
  refine zz_aload_n dL_law_1823 rfl ?_
  refine zz_aload_n dL_law_1824 rfl ?_
  refine zz_iload dL_law_1825 rfl ?_
  refine zz_arg (j := 1) dL_law_1827 dL_law_1828 dL_law_1829 (v := 1) (by decide) (ad_1 i) (by omega) hL ?_
  refine zz_aload_n dL_law_1830 rfl ?_
  refine zz_iload dL_law_1831 rfl ?_
  refine zz_arg (j := 2) dL_law_1833 dL_law_1834 dL_law_1835 (v := 2) (by decide) (ad_2 i) (by omega) hL ?_
  refine zz_callV (ci := 5) hC2 dL_law_1836 zw_m_L_214 wYX5_compare wDX5_compare rfl (by omega) h54 rfl (Nat.le_of_ble_eq_true rfl) (by omega) (Nat.zero_le _) (Nat.zero_le _) rfl (fun v8 τ8 h8 => ?_) (fun E8 τ8 h8 => by obtain ⟨b, hb, _⟩ := hQ2 _ _ h8; cases hb)
  obtain ⟨b, hb, hT, hJK⟩ := hQ2 _ _ h8
  cases hb
  obtain ⟨y, rfl⟩ := hT
  refine zz_istore dL_law_1839 (by decide) ?_
  have hJ8 := JK_J hJK
  obtain ⟨⟨n8, MB8, MI8, T8, rfl⟩, ⟨o8, h66, hV⟩, ⟨w8, h67, hY⟩⟩ := JK_at hJK
  refine zz_aload_n dL_law_1841 rfl ?_
  refine zz_callV1 (ci := 5) m_thrown dL_law_1842 zw_m_L_142 wYX5_thrown wDX5_thrown rfl (by omega) pm_o rfl (Nat.le_of_ble_eq_true rfl) (by decide) rfl ?_
  refine zz_iload dL_law_1845 rfl ?_
  refine zz_icmp_eq (tgt := 1852) dL_law_1847 (by decide) (fun _ => ?_) (fun h => absurd rfl h)
  refine zz_iload dL_law_1852 rfl ?_
  refine zz_if_ne (tgt := 1869) dL_law_1854 (by decide) (fun _ => ?_) (fun hk => ?_)
  · refine zz_goto (tgt := 2755) dL_law_1869 (by decide) ?_
    refine zz_lvs (lv2 := LV i) (fun q hq => by simp only [List.mem_cons, List.not_mem_nil, or_false] at hq; rcases hq with rfl | rfl | rfl | rfl | rfl | rfl <;> simp [zz_up1, zz_up2, Value.category]) ?_
    exact zz_less (by omega) (by omega) (K _ hJ8)
  · refine zz_aload_n dL_law_1857 rfl ?_
    refine zz_iconst (v := 0) dL_law_1858 (by decide) ?_
    refine zz_lald dL_law_1859 (by omega) h66 (vp_in_nI (n := 0) (N := 1) (by omega) (by omega)) ?_
    obtain ⟨y2, e1, e2⟩ := hV hk
    cases e1
    refine zz_iload dL_law_1860 rfl ?_
    refine zz_i2l dL_law_1862 rfl ?_
    refine zz_lcmp dL_law_1863 ?_
    refine zz_if_eq (tgt := 1869) dL_law_1864 (by decide) (fun _ => ?_) (fun h => absurd (cmp_e.mpr e2) h)
    refine zz_goto (tgt := 2755) dL_law_1869 (by decide) ?_
    refine zz_lvs (lv2 := LV i) (fun q hq => by simp only [List.mem_cons, List.not_mem_nil, or_false] at hq; rcases hq with rfl | rfl | rfl | rfl | rfl | rfl <;> simp [zz_up1, zz_up2, Value.category]) ?_
    exact zz_less (by omega) (by omega) (K _ hJ8)
set_option maxHeartbeats 1000000 in
set_option maxRecDepth 20000 in
theorem L_is (hi : i + 6 ≤ L) (hL : L ≤ 3072) (hJ : JJ σ) (h1 : 1 ≤ rc) (h2 : 6 ≤ rz) (K : ∀ τ, JJ τ → zz_E mL_law (some (L, xs)) 9 (rc - 1) (rz - 6) Q 2755 (LV i) [] τ) : zz_E mL_law (some (L, xs)) 9 rc rz Q 1872 (LV i) [] σ := by
  obtain ⟨k, P1, hC, hM⟩ := a_is hJ (xs (i + 1)) (xs (i + 2))
  refine zz_aload_n dL_law_1872 rfl ?_
  refine zz_aload_n dL_law_1873 rfl ?_
  refine zz_iload dL_law_1874 rfl ?_
  refine zz_arg (j := 1) dL_law_1876 dL_law_1877 dL_law_1878 (v := 1) (by decide) (ad_1 i) (by omega) hL ?_
  refine zz_aload_n dL_law_1879 rfl ?_
  refine zz_iload dL_law_1880 rfl ?_
  refine zz_arg (j := 2) dL_law_1882 dL_law_1883 dL_law_1884 (v := 2) (by decide) (ad_2 i) (by omega) hL ?_
  refine zz_aload_n dL_law_1885 rfl ?_
  refine zz_callSH rfl hC dL_law_1886 zw_m_L_215 wYL_is wDL_is rfl (Nat.le_of_ble_eq_true rfl) (by decide) h1 h2 rfl (fun v9 τ9 h9 => ?_) (fun E9 τ9 h9 => by cases h9.1)
  obtain ⟨hv, hp⟩ := h9
  cases hv
  obtain ⟨⟨fs, h54⟩, dm, Q2, hdm, hC2, hQ2⟩ := hM τ9 hp
  refine zz_istore dL_law_1889 (by decide) ?_
  refine zz_aload_n dL_law_1891 rfl ?_
  refine zz_aload_n dL_law_1892 rfl ?_
  refine zz_iload dL_law_1893 rfl ?_
  refine zz_arg (j := 1) dL_law_1895 dL_law_1896 dL_law_1897 (v := 1) (by decide) (ad_1 i) (by omega) hL ?_
  refine zz_aload_n dL_law_1898 rfl ?_
  refine zz_iload dL_law_1899 rfl ?_
  refine zz_arg (j := 2) dL_law_1901 dL_law_1902 dL_law_1903 (v := 2) (by decide) (ad_2 i) (by omega) hL ?_
  refine zz_callV (ci := 5) hC2 dL_law_1904 zw_m_L_217 wYX5_is wDX5_is rfl (by omega) h54 rfl (Nat.le_of_ble_eq_true rfl) (by omega) (Nat.zero_le _) (Nat.zero_le _) rfl (fun v8 τ8 h8 => ?_) (fun E8 τ8 h8 => by obtain ⟨b, hb, _⟩ := hQ2 _ _ h8; cases hb)
  obtain ⟨b, hb, hT, hJK⟩ := hQ2 _ _ h8
  cases hb
  obtain ⟨y, rfl⟩ := hT
  refine zz_istore dL_law_1907 (by decide) ?_
  have hJ8 := JK_J hJK
  obtain ⟨⟨n8, MB8, MI8, T8, rfl⟩, ⟨o8, h66, hV⟩, ⟨w8, h67, hY⟩⟩ := JK_at hJK
  refine zz_aload_n dL_law_1909 rfl ?_
  refine zz_callV1 (ci := 5) m_thrown dL_law_1910 zw_m_L_142 wYX5_thrown wDX5_thrown rfl (by omega) pm_o rfl (Nat.le_of_ble_eq_true rfl) (by decide) rfl ?_
  refine zz_iload dL_law_1913 rfl ?_
  refine zz_icmp_eq (tgt := 1920) dL_law_1915 (by decide) (fun _ => ?_) (fun h => absurd rfl h)
  refine zz_iload dL_law_1920 rfl ?_
  refine zz_if_ne (tgt := 1944) dL_law_1922 (by decide) (fun _ => ?_) (fun hk => ?_)
  · refine zz_goto (tgt := 2755) dL_law_1944 (by decide) ?_
    refine zz_lvs (lv2 := LV i) (fun q hq => by simp only [List.mem_cons, List.not_mem_nil, or_false] at hq; rcases hq with rfl | rfl | rfl | rfl | rfl | rfl <;> simp [zz_up1, zz_up2, Value.category]) ?_
    exact zz_less (by omega) (by omega) (K _ hJ8)
  · refine zz_aload_n dL_law_1925 rfl ?_
    refine zz_iconst (v := 0) dL_law_1926 (by decide) ?_
    refine zz_lald dL_law_1927 (by omega) h66 (vp_in_nI (n := 0) (N := 1) (by omega) (by omega)) ?_
    obtain ⟨y2, e1, e2⟩ := hV hk
    have e3 : y = y2 := zB_inj.mp (by injection e1)
    subst e3
    refine zz_iload dL_law_1928 rfl ?_
    refine zz_nzL dL_law_1930 dL_law_1933 dL_law_1934 dL_law_1937 ?_
    refine zz_lcmp dL_law_1938 ?_
    refine zz_if_eq (tgt := 1944) dL_law_1939 (by decide) (fun _ => ?_) (fun h => absurd (cmp_e.mpr e2) h)
    refine zz_goto (tgt := 2755) dL_law_1944 (by decide) ?_
    refine zz_lvs (lv2 := LV i) (fun q hq => by simp only [List.mem_cons, List.not_mem_nil, or_false] at hq; rcases hq with rfl | rfl | rfl | rfl | rfl | rfl <;> simp [zz_up1, zz_up2, Value.category]) ?_
    exact zz_less (by omega) (by omega) (K _ hJ8)
set_option maxHeartbeats 1000000 in
set_option maxRecDepth 20000 in
theorem L_steps (hi : i + 6 ≤ L) (hL : L ≤ 3072) (hJ : JJ σ) (h1 : 1 ≤ rc) (h2 : 6 ≤ rz) (K : ∀ τ, JJ τ → zz_E mL_law (some (L, xs)) 9 (rc - 1) (rz - 6) Q 2755 (LV i) [] τ) : zz_E mL_law (some (L, xs)) 9 rc rz Q 1947 (LV i) [] σ := by
  obtain ⟨k, P1, hC, hM⟩ := a_steps hJ (xs (i + 1)) (xs (i + 2)) (xs (i + 3))
  refine zz_aload_n dL_law_1947 rfl ?_
  refine zz_aload_n dL_law_1948 rfl ?_
  refine zz_iload dL_law_1949 rfl ?_
  refine zz_arg (j := 1) dL_law_1951 dL_law_1952 dL_law_1953 (v := 1) (by decide) (ad_1 i) (by omega) hL ?_
  refine zz_aload_n dL_law_1954 rfl ?_
  refine zz_iload dL_law_1955 rfl ?_
  refine zz_arg (j := 2) dL_law_1957 dL_law_1958 dL_law_1959 (v := 2) (by decide) (ad_2 i) (by omega) hL ?_
  refine zz_aload_n dL_law_1960 rfl ?_
  refine zz_iload dL_law_1961 rfl ?_
  refine zz_arg (j := 3) dL_law_1963 dL_law_1964 dL_law_1965 (v := 3) (by decide) (ad_3 i) (by omega) hL ?_
  refine zz_aload_n dL_law_1966 rfl ?_
  refine zz_callSH rfl hC dL_law_1967 zw_m_L_218 wYL_steps wDL_steps rfl (Nat.le_of_ble_eq_true rfl) (by decide) h1 h2 rfl (fun v9 τ9 h9 => ?_) (fun E9 τ9 h9 => by cases h9.1)
  obtain ⟨hv, hp⟩ := h9
  cases hv
  obtain ⟨⟨fs, h54⟩, dm, Q2, hdm, hC2, hQ2⟩ := hM τ9 hp
  refine zz_istore dL_law_1970 (by decide) ?_
  refine zz_aload_n dL_law_1972 rfl ?_
  refine zz_aload_n dL_law_1973 rfl ?_
  refine zz_iload dL_law_1974 rfl ?_
  refine zz_arg (j := 1) dL_law_1976 dL_law_1977 dL_law_1978 (v := 1) (by decide) (ad_1 i) (by omega) hL ?_
  refine zz_aload_n dL_law_1979 rfl ?_
  refine zz_iload dL_law_1980 rfl ?_
  refine zz_arg (j := 2) dL_law_1982 dL_law_1983 dL_law_1984 (v := 2) (by decide) (ad_2 i) (by omega) hL ?_
  refine zz_aload_n dL_law_1985 rfl ?_
  refine zz_iload dL_law_1986 rfl ?_
  refine zz_arg (j := 3) dL_law_1988 dL_law_1989 dL_law_1990 (v := 3) (by decide) (ad_3 i) (by omega) hL ?_
  refine zz_callV (ci := 5) hC2 dL_law_1991 zw_m_L_220 wYX5_steps wDX5_steps rfl (by omega) h54 rfl (Nat.le_of_ble_eq_true rfl) (by omega) (Nat.zero_le _) (Nat.zero_le _) rfl (fun v8 τ8 h8 => ?_) (fun E8 τ8 h8 => by obtain ⟨b, hb, _⟩ := hQ2 _ _ h8; cases hb)
  obtain ⟨b, hb, hT, hJK⟩ := hQ2 _ _ h8
  cases hb
  obtain ⟨y, rfl⟩ := hT
  refine zz_istore dL_law_1994 (by decide) ?_
  have hJ8 := JK_J hJK
  obtain ⟨⟨n8, MB8, MI8, T8, rfl⟩, ⟨o8, h66, hV⟩, ⟨w8, h67, hY⟩⟩ := JK_at hJK
  refine zz_aload_n dL_law_1996 rfl ?_
  refine zz_callV1 (ci := 5) m_thrown dL_law_1997 zw_m_L_142 wYX5_thrown wDX5_thrown rfl (by omega) pm_o rfl (Nat.le_of_ble_eq_true rfl) (by decide) rfl ?_
  refine zz_iload dL_law_2000 rfl ?_
  refine zz_icmp_eq (tgt := 2007) dL_law_2002 (by decide) (fun _ => ?_) (fun h => absurd rfl h)
  refine zz_iload dL_law_2007 rfl ?_
  refine zz_if_ne (tgt := 2024) dL_law_2009 (by decide) (fun _ => ?_) (fun hk => ?_)
  · refine zz_goto (tgt := 2755) dL_law_2024 (by decide) ?_
    refine zz_lvs (lv2 := LV i) (fun q hq => by simp only [List.mem_cons, List.not_mem_nil, or_false] at hq; rcases hq with rfl | rfl | rfl | rfl | rfl | rfl <;> simp [zz_up1, zz_up2, Value.category]) ?_
    exact zz_less (by omega) (by omega) (K _ hJ8)
  · refine zz_aload_n dL_law_2012 rfl ?_
    refine zz_iconst (v := 0) dL_law_2013 (by decide) ?_
    refine zz_lald dL_law_2014 (by omega) h66 (vp_in_nI (n := 0) (N := 1) (by omega) (by omega)) ?_
    obtain ⟨y2, e1, e2⟩ := hV hk
    cases e1
    refine zz_iload dL_law_2015 rfl ?_
    refine zz_i2l dL_law_2017 rfl ?_
    refine zz_lcmp dL_law_2018 ?_
    refine zz_if_eq (tgt := 2024) dL_law_2019 (by decide) (fun _ => ?_) (fun h => absurd (cmp_e.mpr e2) h)
    refine zz_goto (tgt := 2755) dL_law_2024 (by decide) ?_
    refine zz_lvs (lv2 := LV i) (fun q hq => by simp only [List.mem_cons, List.not_mem_nil, or_false] at hq; rcases hq with rfl | rfl | rfl | rfl | rfl | rfl <;> simp [zz_up1, zz_up2, Value.category]) ?_
    exact zz_less (by omega) (by omega) (K _ hJ8)
set_option maxHeartbeats 1000000 in
set_option maxRecDepth 20000 in
theorem L_classOf (hi : i + 6 ≤ L) (hL : L ≤ 3072) (hJ : JJ σ) (h1 : 1 ≤ rc) (h2 : 6 ≤ rz) (K : ∀ τ, JJ τ → zz_E mL_law (some (L, xs)) 9 (rc - 1) (rz - 6) Q 2755 (LV i) [] τ) : zz_E mL_law (some (L, xs)) 9 rc rz Q 2027 (LV i) [] σ := by
  obtain ⟨k, P1, hC, hM⟩ := a_classOf hJ (xs (i + 1)) (xs (i + 2))
  refine zz_aload_n dL_law_2027 rfl ?_
  refine zz_aload_n dL_law_2028 rfl ?_
  refine zz_iload dL_law_2029 rfl ?_
  refine zz_arg (j := 1) dL_law_2031 dL_law_2032 dL_law_2033 (v := 1) (by decide) (ad_1 i) (by omega) hL ?_
  refine zz_aload_n dL_law_2034 rfl ?_
  refine zz_iload dL_law_2035 rfl ?_
  refine zz_arg (j := 2) dL_law_2037 dL_law_2038 dL_law_2039 (v := 2) (by decide) (ad_2 i) (by omega) hL ?_
  refine zz_aload_n dL_law_2040 rfl ?_
  refine zz_callSH rfl hC dL_law_2041 zw_m_L_221 wYL_classOf wDL_classOf rfl (Nat.le_of_ble_eq_true rfl) (by decide) h1 h2 rfl (fun v9 τ9 h9 => ?_) (fun E9 τ9 h9 => by cases h9.1)
  obtain ⟨hv, hp⟩ := h9
  cases hv
  obtain ⟨⟨fs, h54⟩, dm, Q2, hdm, hC2, hQ2⟩ := hM τ9 hp
  refine zz_istore dL_law_2044 (by decide) ?_
  refine zz_aload_n dL_law_2046 rfl ?_
  refine zz_aload_n dL_law_2047 rfl ?_
  refine zz_iload dL_law_2048 rfl ?_
  refine zz_arg (j := 1) dL_law_2050 dL_law_2051 dL_law_2052 (v := 1) (by decide) (ad_1 i) (by omega) hL ?_
  refine zz_aload_n dL_law_2053 rfl ?_
  refine zz_iload dL_law_2054 rfl ?_
  refine zz_arg (j := 2) dL_law_2056 dL_law_2057 dL_law_2058 (v := 2) (by decide) (ad_2 i) (by omega) hL ?_
  refine zz_callV (ci := 5) hC2 dL_law_2059 zw_m_L_223 wYX5_classOf wDX5_classOf rfl (by omega) h54 rfl (Nat.le_of_ble_eq_true rfl) (by omega) (Nat.zero_le _) (Nat.zero_le _) rfl (fun v8 τ8 h8 => ?_) (fun E8 τ8 h8 => by obtain ⟨b, hb, _⟩ := hQ2 _ _ h8; cases hb)
  obtain ⟨b, hb, hT, hJK⟩ := hQ2 _ _ h8
  cases hb
  obtain ⟨y, rfl⟩ := hT
  refine zz_istore dL_law_2062 (by decide) ?_
  have hJ8 := JK_J hJK
  obtain ⟨⟨n8, MB8, MI8, T8, rfl⟩, ⟨o8, h66, hV⟩, ⟨w8, h67, hY⟩⟩ := JK_at hJK
  refine zz_aload_n dL_law_2064 rfl ?_
  refine zz_callV1 (ci := 5) m_thrown dL_law_2065 zw_m_L_142 wYX5_thrown wDX5_thrown rfl (by omega) pm_o rfl (Nat.le_of_ble_eq_true rfl) (by decide) rfl ?_
  refine zz_iload dL_law_2068 rfl ?_
  refine zz_icmp_eq (tgt := 2075) dL_law_2070 (by decide) (fun _ => ?_) (fun h => absurd rfl h)
  refine zz_iload dL_law_2075 rfl ?_
  refine zz_if_ne (tgt := 2092) dL_law_2077 (by decide) (fun _ => ?_) (fun hk => ?_)
  · refine zz_goto (tgt := 2755) dL_law_2092 (by decide) ?_
    refine zz_lvs (lv2 := LV i) (fun q hq => by simp only [List.mem_cons, List.not_mem_nil, or_false] at hq; rcases hq with rfl | rfl | rfl | rfl | rfl | rfl <;> simp [zz_up1, zz_up2, Value.category]) ?_
    exact zz_less (by omega) (by omega) (K _ hJ8)
  · refine zz_aload_n dL_law_2080 rfl ?_
    refine zz_iconst (v := 0) dL_law_2081 (by decide) ?_
    refine zz_lald dL_law_2082 (by omega) h66 (vp_in_nI (n := 0) (N := 1) (by omega) (by omega)) ?_
    obtain ⟨y2, e1, e2⟩ := hV hk
    cases e1
    refine zz_iload dL_law_2083 rfl ?_
    refine zz_i2l dL_law_2085 rfl ?_
    refine zz_lcmp dL_law_2086 ?_
    refine zz_if_eq (tgt := 2092) dL_law_2087 (by decide) (fun _ => ?_) (fun h => absurd (cmp_e.mpr e2) h)
    refine zz_goto (tgt := 2755) dL_law_2092 (by decide) ?_
    refine zz_lvs (lv2 := LV i) (fun q hq => by simp only [List.mem_cons, List.not_mem_nil, or_false] at hq; rcases hq with rfl | rfl | rfl | rfl | rfl | rfl <;> simp [zz_up1, zz_up2, Value.category]) ?_
    exact zz_less (by omega) (by omega) (K _ hJ8)
set_option maxHeartbeats 1000000 in
set_option maxRecDepth 20000 in
theorem L_classes (hi : i + 6 ≤ L) (hL : L ≤ 3072) (hJ : JJ σ) (h1 : 1 ≤ rc) (h2 : 6 ≤ rz) (K : ∀ τ, JJ τ → zz_E mL_law (some (L, xs)) 9 (rc - 1) (rz - 6) Q 2755 (LV i) [] τ) : zz_E mL_law (some (L, xs)) 9 rc rz Q 2095 (LV i) [] σ := by
  obtain ⟨k, P1, hC, hM⟩ := a_classes hJ (xs (i + 1))
  refine zz_aload_n dL_law_2095 rfl ?_
  refine zz_aload_n dL_law_2096 rfl ?_
  refine zz_iload dL_law_2097 rfl ?_
  refine zz_arg (j := 1) dL_law_2099 dL_law_2100 dL_law_2101 (v := 1) (by decide) (ad_1 i) (by omega) hL ?_
  refine zz_aload_n dL_law_2102 rfl ?_
  refine zz_callSH rfl hC dL_law_2103 zw_m_L_224 wYL_classes wDL_classes rfl (Nat.le_of_ble_eq_true rfl) (by decide) h1 h2 rfl (fun v9 τ9 h9 => ?_) (fun E9 τ9 h9 => by cases h9.1)
  obtain ⟨hv, hp⟩ := h9
  cases hv
  obtain ⟨⟨fs, h54⟩, dm, Q2, hdm, hC2, hQ2⟩ := hM τ9 hp
  refine zz_istore dL_law_2106 (by decide) ?_
  refine zz_aload_n dL_law_2108 rfl ?_
  refine zz_aload_n dL_law_2109 rfl ?_
  refine zz_iload dL_law_2110 rfl ?_
  refine zz_arg (j := 1) dL_law_2112 dL_law_2113 dL_law_2114 (v := 1) (by decide) (ad_1 i) (by omega) hL ?_
  refine zz_callV (ci := 5) hC2 dL_law_2115 zw_m_L_226 wYX5_classes wDX5_classes rfl (by omega) h54 rfl (Nat.le_of_ble_eq_true rfl) (by omega) (Nat.zero_le _) (Nat.zero_le _) rfl (fun v8 τ8 h8 => ?_) (fun E8 τ8 h8 => by obtain ⟨b, hb, _⟩ := hQ2 _ _ h8; cases hb)
  obtain ⟨b, hb, hT, hJK⟩ := hQ2 _ _ h8
  cases hb
  obtain ⟨y, rfl⟩ := hT
  refine zz_istore dL_law_2118 (by decide) ?_
  have hJ8 := JK_J hJK
  obtain ⟨⟨n8, MB8, MI8, T8, rfl⟩, ⟨o8, h66, hV⟩, ⟨w8, h67, hY⟩⟩ := JK_at hJK
  refine zz_aload_n dL_law_2120 rfl ?_
  refine zz_callV1 (ci := 5) m_thrown dL_law_2121 zw_m_L_142 wYX5_thrown wDX5_thrown rfl (by omega) pm_o rfl (Nat.le_of_ble_eq_true rfl) (by decide) rfl ?_
  refine zz_iload dL_law_2124 rfl ?_
  refine zz_icmp_eq (tgt := 2131) dL_law_2126 (by decide) (fun _ => ?_) (fun h => absurd rfl h)
  refine zz_iload dL_law_2131 rfl ?_
  refine zz_if_ne (tgt := 2148) dL_law_2133 (by decide) (fun _ => ?_) (fun hk => ?_)
  · refine zz_goto (tgt := 2755) dL_law_2148 (by decide) ?_
    refine zz_lvs (lv2 := LV i) (fun q hq => by simp only [List.mem_cons, List.not_mem_nil, or_false] at hq; rcases hq with rfl | rfl | rfl | rfl | rfl | rfl <;> simp [zz_up1, zz_up2, Value.category]) ?_
    exact zz_less (by omega) (by omega) (K _ hJ8)
  · refine zz_aload_n dL_law_2136 rfl ?_
    refine zz_iconst (v := 0) dL_law_2137 (by decide) ?_
    refine zz_lald dL_law_2138 (by omega) h66 (vp_in_nI (n := 0) (N := 1) (by omega) (by omega)) ?_
    obtain ⟨y2, e1, e2⟩ := hV hk
    cases e1
    refine zz_iload dL_law_2139 rfl ?_
    refine zz_i2l dL_law_2141 rfl ?_
    refine zz_lcmp dL_law_2142 ?_
    refine zz_if_eq (tgt := 2148) dL_law_2143 (by decide) (fun _ => ?_) (fun h => absurd (cmp_e.mpr e2) h)
    refine zz_goto (tgt := 2755) dL_law_2148 (by decide) ?_
    refine zz_lvs (lv2 := LV i) (fun q hq => by simp only [List.mem_cons, List.not_mem_nil, or_false] at hq; rcases hq with rfl | rfl | rfl | rfl | rfl | rfl <;> simp [zz_up1, zz_up2, Value.category]) ?_
    exact zz_less (by omega) (by omega) (K _ hJ8)
set_option maxHeartbeats 1000000 in
set_option maxRecDepth 20000 in
theorem L_hasRing (hi : i + 6 ≤ L) (hL : L ≤ 3072) (hJ : JJ σ) (h1 : 1 ≤ rc) (h2 : 6 ≤ rz) (K : ∀ τ, JJ τ → zz_E mL_law (some (L, xs)) 9 (rc - 1) (rz - 6) Q 2755 (LV i) [] τ) : zz_E mL_law (some (L, xs)) 9 rc rz Q 2151 (LV i) [] σ := by
  obtain ⟨k, P1, hC, hM⟩ := a_hasRing hJ (xs (i + 1))
  refine zz_aload_n dL_law_2151 rfl ?_
  refine zz_aload_n dL_law_2152 rfl ?_
  refine zz_iload dL_law_2153 rfl ?_
  refine zz_arg (j := 1) dL_law_2155 dL_law_2156 dL_law_2157 (v := 1) (by decide) (ad_1 i) (by omega) hL ?_
  refine zz_aload_n dL_law_2158 rfl ?_
  refine zz_callSH rfl hC dL_law_2159 zw_m_L_227 wYL_hasRing wDL_hasRing rfl (Nat.le_of_ble_eq_true rfl) (by decide) h1 h2 rfl (fun v9 τ9 h9 => ?_) (fun E9 τ9 h9 => by cases h9.1)
  obtain ⟨hv, hp⟩ := h9
  cases hv
  obtain ⟨⟨fs, h54⟩, dm, Q2, hdm, hC2, hQ2⟩ := hM τ9 hp
  refine zz_istore dL_law_2162 (by decide) ?_
  refine zz_aload_n dL_law_2164 rfl ?_
  refine zz_aload_n dL_law_2165 rfl ?_
  refine zz_iload dL_law_2166 rfl ?_
  refine zz_arg (j := 1) dL_law_2168 dL_law_2169 dL_law_2170 (v := 1) (by decide) (ad_1 i) (by omega) hL ?_
  refine zz_callV (ci := 5) hC2 dL_law_2171 zw_m_L_229 wYX5_hasRing wDX5_hasRing rfl (by omega) h54 rfl (Nat.le_of_ble_eq_true rfl) (by omega) (Nat.zero_le _) (Nat.zero_le _) rfl (fun v8 τ8 h8 => ?_) (fun E8 τ8 h8 => by obtain ⟨b, hb, _⟩ := hQ2 _ _ h8; cases hb)
  obtain ⟨b, hb, hT, hJK⟩ := hQ2 _ _ h8
  cases hb
  obtain ⟨y, rfl⟩ := hT
  refine zz_istore dL_law_2174 (by decide) ?_
  have hJ8 := JK_J hJK
  obtain ⟨⟨n8, MB8, MI8, T8, rfl⟩, ⟨o8, h66, hV⟩, ⟨w8, h67, hY⟩⟩ := JK_at hJK
  refine zz_aload_n dL_law_2176 rfl ?_
  refine zz_callV1 (ci := 5) m_thrown dL_law_2177 zw_m_L_142 wYX5_thrown wDX5_thrown rfl (by omega) pm_o rfl (Nat.le_of_ble_eq_true rfl) (by decide) rfl ?_
  refine zz_iload dL_law_2180 rfl ?_
  refine zz_icmp_eq (tgt := 2187) dL_law_2182 (by decide) (fun _ => ?_) (fun h => absurd rfl h)
  refine zz_iload dL_law_2187 rfl ?_
  refine zz_if_ne (tgt := 2211) dL_law_2189 (by decide) (fun _ => ?_) (fun hk => ?_)
  · refine zz_goto (tgt := 2755) dL_law_2211 (by decide) ?_
    refine zz_lvs (lv2 := LV i) (fun q hq => by simp only [List.mem_cons, List.not_mem_nil, or_false] at hq; rcases hq with rfl | rfl | rfl | rfl | rfl | rfl <;> simp [zz_up1, zz_up2, Value.category]) ?_
    exact zz_less (by omega) (by omega) (K _ hJ8)
  · refine zz_aload_n dL_law_2192 rfl ?_
    refine zz_iconst (v := 0) dL_law_2193 (by decide) ?_
    refine zz_lald dL_law_2194 (by omega) h66 (vp_in_nI (n := 0) (N := 1) (by omega) (by omega)) ?_
    obtain ⟨y2, e1, e2⟩ := hV hk
    have e3 : y = y2 := zB_inj.mp (by injection e1)
    subst e3
    refine zz_iload dL_law_2195 rfl ?_
    refine zz_nzL dL_law_2197 dL_law_2200 dL_law_2201 dL_law_2204 ?_
    refine zz_lcmp dL_law_2205 ?_
    refine zz_if_eq (tgt := 2211) dL_law_2206 (by decide) (fun _ => ?_) (fun h => absurd (cmp_e.mpr e2) h)
    refine zz_goto (tgt := 2755) dL_law_2211 (by decide) ?_
    refine zz_lvs (lv2 := LV i) (fun q hq => by simp only [List.mem_cons, List.not_mem_nil, or_false] at hq; rcases hq with rfl | rfl | rfl | rfl | rfl | rfl <;> simp [zz_up1, zz_up2, Value.category]) ?_
    exact zz_less (by omega) (by omega) (K _ hJ8)
set_option maxHeartbeats 1000000 in
set_option maxRecDepth 20000 in
theorem L_orderAt (hi : i + 6 ≤ L) (hL : L ≤ 3072) (hJ : JJ σ) (h1 : 1 ≤ rc) (h2 : 6 ≤ rz) (K : ∀ τ, JJ τ → zz_E mL_law (some (L, xs)) 9 (rc - 1) (rz - 6) Q 2755 (LV i) [] τ) : zz_E mL_law (some (L, xs)) 9 rc rz Q 2214 (LV i) [] σ := by
  obtain ⟨k, P1, hC, hM⟩ := a_orderAt hJ (xs (i + 1)) (xs (i + 2))
  refine zz_aload_n dL_law_2214 rfl ?_
  refine zz_aload_n dL_law_2215 rfl ?_
  refine zz_iload dL_law_2216 rfl ?_
  refine zz_arg (j := 1) dL_law_2218 dL_law_2219 dL_law_2220 (v := 1) (by decide) (ad_1 i) (by omega) hL ?_
  refine zz_aload_n dL_law_2221 rfl ?_
  refine zz_iload dL_law_2222 rfl ?_
  refine zz_arg (j := 2) dL_law_2224 dL_law_2225 dL_law_2226 (v := 2) (by decide) (ad_2 i) (by omega) hL ?_
  refine zz_aload_n dL_law_2227 rfl ?_
  refine zz_callSH rfl hC dL_law_2228 zw_m_L_230 wYL_orderAt wDL_orderAt rfl (Nat.le_of_ble_eq_true rfl) (by decide) h1 h2 rfl (fun v9 τ9 h9 => ?_) (fun E9 τ9 h9 => by cases h9.1)
  obtain ⟨hv, hp⟩ := h9
  cases hv
  obtain ⟨⟨fs, h54⟩, dm, Q2, hdm, hC2, hQ2⟩ := hM τ9 hp
  refine zz_istore dL_law_2231 (by decide) ?_
  refine zz_aload_n dL_law_2233 rfl ?_
  refine zz_aload_n dL_law_2234 rfl ?_
  refine zz_iload dL_law_2235 rfl ?_
  refine zz_arg (j := 1) dL_law_2237 dL_law_2238 dL_law_2239 (v := 1) (by decide) (ad_1 i) (by omega) hL ?_
  refine zz_aload_n dL_law_2240 rfl ?_
  refine zz_iload dL_law_2241 rfl ?_
  refine zz_arg (j := 2) dL_law_2243 dL_law_2244 dL_law_2245 (v := 2) (by decide) (ad_2 i) (by omega) hL ?_
  refine zz_callV (ci := 5) hC2 dL_law_2246 zw_m_L_232 wYX5_orderAt wDX5_orderAt rfl (by omega) h54 rfl (Nat.le_of_ble_eq_true rfl) (by omega) (Nat.zero_le _) (Nat.zero_le _) rfl (fun v8 τ8 h8 => ?_) (fun E8 τ8 h8 => by obtain ⟨b, hb, _⟩ := hQ2 _ _ h8; cases hb)
  obtain ⟨b, hb, hT, hJK⟩ := hQ2 _ _ h8
  cases hb
  obtain ⟨y, rfl⟩ := hT
  refine zz_istore dL_law_2249 (by decide) ?_
  have hJ8 := JK_J hJK
  obtain ⟨⟨n8, MB8, MI8, T8, rfl⟩, ⟨o8, h66, hV⟩, ⟨w8, h67, hY⟩⟩ := JK_at hJK
  refine zz_aload_n dL_law_2251 rfl ?_
  refine zz_callV1 (ci := 5) m_thrown dL_law_2252 zw_m_L_142 wYX5_thrown wDX5_thrown rfl (by omega) pm_o rfl (Nat.le_of_ble_eq_true rfl) (by decide) rfl ?_
  refine zz_iload dL_law_2255 rfl ?_
  refine zz_icmp_eq (tgt := 2262) dL_law_2257 (by decide) (fun _ => ?_) (fun h => absurd rfl h)
  refine zz_iload dL_law_2262 rfl ?_
  refine zz_if_ne (tgt := 2279) dL_law_2264 (by decide) (fun _ => ?_) (fun hk => ?_)
  · refine zz_goto (tgt := 2755) dL_law_2279 (by decide) ?_
    refine zz_lvs (lv2 := LV i) (fun q hq => by simp only [List.mem_cons, List.not_mem_nil, or_false] at hq; rcases hq with rfl | rfl | rfl | rfl | rfl | rfl <;> simp [zz_up1, zz_up2, Value.category]) ?_
    exact zz_less (by omega) (by omega) (K _ hJ8)
  · refine zz_aload_n dL_law_2267 rfl ?_
    refine zz_iconst (v := 0) dL_law_2268 (by decide) ?_
    refine zz_lald dL_law_2269 (by omega) h66 (vp_in_nI (n := 0) (N := 1) (by omega) (by omega)) ?_
    obtain ⟨y2, e1, e2⟩ := hV hk
    cases e1
    refine zz_iload dL_law_2270 rfl ?_
    refine zz_i2l dL_law_2272 rfl ?_
    refine zz_lcmp dL_law_2273 ?_
    refine zz_if_eq (tgt := 2279) dL_law_2274 (by decide) (fun _ => ?_) (fun h => absurd (cmp_e.mpr e2) h)
    refine zz_goto (tgt := 2755) dL_law_2279 (by decide) ?_
    refine zz_lvs (lv2 := LV i) (fun q hq => by simp only [List.mem_cons, List.not_mem_nil, or_false] at hq; rcases hq with rfl | rfl | rfl | rfl | rfl | rfl <;> simp [zz_up1, zz_up2, Value.category]) ?_
    exact zz_less (by omega) (by omega) (K _ hJ8)
set_option maxHeartbeats 1000000 in
set_option maxRecDepth 20000 in
theorem L_longestWalk (hi : i + 6 ≤ L) (hL : L ≤ 3072) (hJ : JJ σ) (h1 : 1 ≤ rc) (h2 : 6 ≤ rz) (K : ∀ τ, JJ τ → zz_E mL_law (some (L, xs)) 9 (rc - 1) (rz - 6) Q 2755 (LV i) [] τ) : zz_E mL_law (some (L, xs)) 9 rc rz Q 2282 (LV i) [] σ := by
  obtain ⟨k, P1, hC, hM⟩ := a_longestWalk hJ (xs (i + 1))
  refine zz_aload_n dL_law_2282 rfl ?_
  refine zz_aload_n dL_law_2283 rfl ?_
  refine zz_iload dL_law_2284 rfl ?_
  refine zz_arg (j := 1) dL_law_2286 dL_law_2287 dL_law_2288 (v := 1) (by decide) (ad_1 i) (by omega) hL ?_
  refine zz_aload_n dL_law_2289 rfl ?_
  refine zz_callSH rfl hC dL_law_2290 zw_m_L_233 wYL_longestWalk wDL_longestWalk rfl (Nat.le_of_ble_eq_true rfl) (by decide) h1 h2 rfl (fun v9 τ9 h9 => ?_) (fun E9 τ9 h9 => by cases h9.1)
  obtain ⟨hv, hp⟩ := h9
  cases hv
  obtain ⟨⟨fs, h54⟩, dm, Q2, hdm, hC2, hQ2⟩ := hM τ9 hp
  refine zz_istore dL_law_2293 (by decide) ?_
  refine zz_aload_n dL_law_2295 rfl ?_
  refine zz_aload_n dL_law_2296 rfl ?_
  refine zz_iload dL_law_2297 rfl ?_
  refine zz_arg (j := 1) dL_law_2299 dL_law_2300 dL_law_2301 (v := 1) (by decide) (ad_1 i) (by omega) hL ?_
  refine zz_callV (ci := 5) hC2 dL_law_2302 zw_m_L_235 wYX5_longestWalk wDX5_longestWalk rfl (by omega) h54 rfl (Nat.le_of_ble_eq_true rfl) (by omega) (Nat.zero_le _) (Nat.zero_le _) rfl (fun v8 τ8 h8 => ?_) (fun E8 τ8 h8 => by obtain ⟨b, hb, _⟩ := hQ2 _ _ h8; cases hb)
  obtain ⟨b, hb, hT, hJK⟩ := hQ2 _ _ h8
  cases hb
  obtain ⟨y, rfl⟩ := hT
  refine zz_istore dL_law_2305 (by decide) ?_
  have hJ8 := JK_J hJK
  obtain ⟨⟨n8, MB8, MI8, T8, rfl⟩, ⟨o8, h66, hV⟩, ⟨w8, h67, hY⟩⟩ := JK_at hJK
  refine zz_aload_n dL_law_2307 rfl ?_
  refine zz_callV1 (ci := 5) m_thrown dL_law_2308 zw_m_L_142 wYX5_thrown wDX5_thrown rfl (by omega) pm_o rfl (Nat.le_of_ble_eq_true rfl) (by decide) rfl ?_
  refine zz_iload dL_law_2311 rfl ?_
  refine zz_icmp_eq (tgt := 2318) dL_law_2313 (by decide) (fun _ => ?_) (fun h => absurd rfl h)
  refine zz_iload dL_law_2318 rfl ?_
  refine zz_if_ne (tgt := 2335) dL_law_2320 (by decide) (fun _ => ?_) (fun hk => ?_)
  · refine zz_goto (tgt := 2755) dL_law_2335 (by decide) ?_
    refine zz_lvs (lv2 := LV i) (fun q hq => by simp only [List.mem_cons, List.not_mem_nil, or_false] at hq; rcases hq with rfl | rfl | rfl | rfl | rfl | rfl <;> simp [zz_up1, zz_up2, Value.category]) ?_
    exact zz_less (by omega) (by omega) (K _ hJ8)
  · refine zz_aload_n dL_law_2323 rfl ?_
    refine zz_iconst (v := 0) dL_law_2324 (by decide) ?_
    refine zz_lald dL_law_2325 (by omega) h66 (vp_in_nI (n := 0) (N := 1) (by omega) (by omega)) ?_
    obtain ⟨y2, e1, e2⟩ := hV hk
    cases e1
    refine zz_iload dL_law_2326 rfl ?_
    refine zz_i2l dL_law_2328 rfl ?_
    refine zz_lcmp dL_law_2329 ?_
    refine zz_if_eq (tgt := 2335) dL_law_2330 (by decide) (fun _ => ?_) (fun h => absurd (cmp_e.mpr e2) h)
    refine zz_goto (tgt := 2755) dL_law_2335 (by decide) ?_
    refine zz_lvs (lv2 := LV i) (fun q hq => by simp only [List.mem_cons, List.not_mem_nil, or_false] at hq; rcases hq with rfl | rfl | rfl | rfl | rfl | rfl <;> simp [zz_up1, zz_up2, Value.category]) ?_
    exact zz_less (by omega) (by omega) (K _ hJ8)
set_option maxHeartbeats 1000000 in
set_option maxRecDepth 20000 in
theorem L_mark (hi : i + 6 ≤ L) (hL : L ≤ 3072) (hJ : JJ σ) (h1 : 1 ≤ rc) (h2 : 6 ≤ rz) (K : ∀ τ, JJ τ → zz_E mL_law (some (L, xs)) 9 (rc - 1) (rz - 6) Q 2755 (LV i) [] τ) : zz_E mL_law (some (L, xs)) 9 rc rz Q 2338 (LV i) [] σ := by
  obtain ⟨k, P1, hC, hM⟩ := a_mark hJ (xs (i + 1)) (xs (i + 2)) (decide (¬ xs (i + 3) = 0))
  refine zz_aload_n dL_law_2338 rfl ?_
  refine zz_aload_n dL_law_2339 rfl ?_
  refine zz_iload dL_law_2340 rfl ?_
  refine zz_arg (j := 1) dL_law_2342 dL_law_2343 dL_law_2344 (v := 1) (by decide) (ad_1 i) (by omega) hL ?_
  refine zz_aload_n dL_law_2345 rfl ?_
  refine zz_iload dL_law_2346 rfl ?_
  refine zz_arg (j := 2) dL_law_2348 dL_law_2349 dL_law_2350 (v := 2) (by decide) (ad_2 i) (by omega) hL ?_
  refine zz_aload_n dL_law_2351 rfl ?_
  refine zz_iload dL_law_2352 rfl ?_
  refine zz_arg (j := 3) dL_law_2354 dL_law_2355 dL_law_2356 (v := 3) (by decide) (ad_3 i) (by omega) hL ?_
  refine zz_nz dL_law_2357 dL_law_2360 dL_law_2361 dL_law_2364 ?_
  refine zz_aload_n dL_law_2365 rfl ?_
  refine zz_callSH rfl hC dL_law_2366 zw_m_L_236 wYL_mark wDL_mark rfl (Nat.le_of_ble_eq_true rfl) (by decide) h1 h2 rfl (fun v9 τ9 h9 => ?_) (fun E9 τ9 h9 => by cases h9.1)
  obtain ⟨hv, hp⟩ := h9
  cases hv
  obtain ⟨⟨fs, h54⟩, dm, Q2, hdm, hC2, hQ2⟩ := hM τ9 hp
  refine zz_istore dL_law_2369 (by decide) ?_
  refine zz_aload_n dL_law_2371 rfl ?_
  refine zz_aload_n dL_law_2372 rfl ?_
  refine zz_iload dL_law_2373 rfl ?_
  refine zz_arg (j := 1) dL_law_2375 dL_law_2376 dL_law_2377 (v := 1) (by decide) (ad_1 i) (by omega) hL ?_
  refine zz_aload_n dL_law_2378 rfl ?_
  refine zz_iload dL_law_2379 rfl ?_
  refine zz_arg (j := 2) dL_law_2381 dL_law_2382 dL_law_2383 (v := 2) (by decide) (ad_2 i) (by omega) hL ?_
  refine zz_aload_n dL_law_2384 rfl ?_
  refine zz_iload dL_law_2385 rfl ?_
  refine zz_arg (j := 3) dL_law_2387 dL_law_2388 dL_law_2389 (v := 3) (by decide) (ad_3 i) (by omega) hL ?_
  refine zz_nz dL_law_2390 dL_law_2393 dL_law_2394 dL_law_2397 ?_
  refine zz_callV (ci := 5) hC2 dL_law_2398 zw_m_L_239 wYX5_mark wDX5_mark rfl (by omega) h54 rfl (Nat.le_of_ble_eq_true rfl) (by omega) (Nat.zero_le _) (Nat.zero_le _) rfl (fun v8 τ8 h8 => ?_) (fun E8 τ8 h8 => by obtain ⟨b, hb, _⟩ := hQ2 _ _ h8; cases hb)
  obtain ⟨b, hb, hT, hJK⟩ := hQ2 _ _ h8
  cases hb
  obtain ⟨y, rfl⟩ := hT
  refine zz_istore dL_law_2401 (by decide) ?_
  have hJ8 := JK_J hJK
  obtain ⟨⟨n8, MB8, MI8, T8, rfl⟩, ⟨o8, h66, hV⟩, ⟨w8, h67, hY⟩⟩ := JK_at hJK
  refine zz_aload_n dL_law_2403 rfl ?_
  refine zz_callV1 (ci := 5) m_thrown dL_law_2404 zw_m_L_142 wYX5_thrown wDX5_thrown rfl (by omega) pm_o rfl (Nat.le_of_ble_eq_true rfl) (by decide) rfl ?_
  refine zz_iload dL_law_2407 rfl ?_
  refine zz_icmp_eq (tgt := 2414) dL_law_2409 (by decide) (fun _ => ?_) (fun h => absurd rfl h)
  refine zz_iload dL_law_2414 rfl ?_
  refine zz_if_ne (tgt := 2431) dL_law_2416 (by decide) (fun _ => ?_) (fun hk => ?_)
  · refine zz_goto (tgt := 2755) dL_law_2431 (by decide) ?_
    refine zz_lvs (lv2 := LV i) (fun q hq => by simp only [List.mem_cons, List.not_mem_nil, or_false] at hq; rcases hq with rfl | rfl | rfl | rfl | rfl | rfl <;> simp [zz_up1, zz_up2, Value.category]) ?_
    exact zz_less (by omega) (by omega) (K _ hJ8)
  · refine zz_aload_n dL_law_2419 rfl ?_
    refine zz_iconst (v := 0) dL_law_2420 (by decide) ?_
    refine zz_lald dL_law_2421 (by omega) h66 (vp_in_nI (n := 0) (N := 1) (by omega) (by omega)) ?_
    obtain ⟨y2, e1, e2⟩ := hV hk
    cases e1
    refine zz_iload dL_law_2422 rfl ?_
    refine zz_i2l dL_law_2424 rfl ?_
    refine zz_lcmp dL_law_2425 ?_
    refine zz_if_eq (tgt := 2431) dL_law_2426 (by decide) (fun _ => ?_) (fun h => absurd (cmp_e.mpr e2) h)
    refine zz_goto (tgt := 2755) dL_law_2431 (by decide) ?_
    refine zz_lvs (lv2 := LV i) (fun q hq => by simp only [List.mem_cons, List.not_mem_nil, or_false] at hq; rcases hq with rfl | rfl | rfl | rfl | rfl | rfl <;> simp [zz_up1, zz_up2, Value.category]) ?_
    exact zz_less (by omega) (by omega) (K _ hJ8)
set_option maxHeartbeats 1000000 in
set_option maxRecDepth 20000 in
theorem L_spread (hi : i + 6 ≤ L) (hL : L ≤ 3072) (hJ : JJ σ) (h1 : 1 ≤ rc) (h2 : 6 ≤ rz) (K : ∀ τ, JJ τ → zz_E mL_law (some (L, xs)) 9 (rc - 1) (rz - 6) Q 2755 (LV i) [] τ) : zz_E mL_law (some (L, xs)) 9 rc rz Q 2434 (LV i) [] σ := by
  obtain ⟨k, P1, hC, hM⟩ := a_spread hJ (xs (i + 1)) (decide (¬ xs (i + 2) = 0))
  refine zz_aload_n dL_law_2434 rfl ?_
  refine zz_aload_n dL_law_2435 rfl ?_
  refine zz_iload dL_law_2436 rfl ?_
  refine zz_arg (j := 1) dL_law_2438 dL_law_2439 dL_law_2440 (v := 1) (by decide) (ad_1 i) (by omega) hL ?_
  refine zz_aload_n dL_law_2441 rfl ?_
  refine zz_iload dL_law_2442 rfl ?_
  refine zz_arg (j := 2) dL_law_2444 dL_law_2445 dL_law_2446 (v := 2) (by decide) (ad_2 i) (by omega) hL ?_
  refine zz_nz dL_law_2447 dL_law_2450 dL_law_2451 dL_law_2454 ?_
  refine zz_aload_n dL_law_2455 rfl ?_
  refine zz_callSH rfl hC dL_law_2456 zw_m_L_240 wYL_spread wDL_spread rfl (Nat.le_of_ble_eq_true rfl) (by decide) h1 h2 rfl (fun v9 τ9 h9 => ?_) (fun E9 τ9 h9 => by cases h9.1)
  obtain ⟨hv, hp⟩ := h9
  cases hv
  obtain ⟨⟨fs, h54⟩, dm, Q2, hdm, hC2, hQ2⟩ := hM τ9 hp
  refine zz_istore dL_law_2459 (by decide) ?_
  refine zz_aload_n dL_law_2461 rfl ?_
  refine zz_aload_n dL_law_2462 rfl ?_
  refine zz_iload dL_law_2463 rfl ?_
  refine zz_arg (j := 1) dL_law_2465 dL_law_2466 dL_law_2467 (v := 1) (by decide) (ad_1 i) (by omega) hL ?_
  refine zz_aload_n dL_law_2468 rfl ?_
  refine zz_iload dL_law_2469 rfl ?_
  refine zz_arg (j := 2) dL_law_2471 dL_law_2472 dL_law_2473 (v := 2) (by decide) (ad_2 i) (by omega) hL ?_
  refine zz_nz dL_law_2474 dL_law_2477 dL_law_2478 dL_law_2481 ?_
  refine zz_callV (ci := 5) hC2 dL_law_2482 zw_m_L_242 wYX5_spread wDX5_spread rfl (by omega) h54 rfl (Nat.le_of_ble_eq_true rfl) (by omega) (Nat.zero_le _) (Nat.zero_le _) rfl (fun v8 τ8 h8 => ?_) (fun E8 τ8 h8 => by obtain ⟨b, hb, _⟩ := hQ2 _ _ h8; cases hb)
  obtain ⟨b, hb, hT, hJK⟩ := hQ2 _ _ h8
  cases hb
  obtain ⟨y, rfl⟩ := hT
  refine zz_istore dL_law_2485 (by decide) ?_
  have hJ8 := JK_J hJK
  obtain ⟨⟨n8, MB8, MI8, T8, rfl⟩, ⟨o8, h66, hV⟩, ⟨w8, h67, hY⟩⟩ := JK_at hJK
  refine zz_aload_n dL_law_2487 rfl ?_
  refine zz_callV1 (ci := 5) m_thrown dL_law_2488 zw_m_L_142 wYX5_thrown wDX5_thrown rfl (by omega) pm_o rfl (Nat.le_of_ble_eq_true rfl) (by decide) rfl ?_
  refine zz_iload dL_law_2491 rfl ?_
  refine zz_icmp_eq (tgt := 2498) dL_law_2493 (by decide) (fun _ => ?_) (fun h => absurd rfl h)
  refine zz_iload dL_law_2498 rfl ?_
  refine zz_if_ne (tgt := 2515) dL_law_2500 (by decide) (fun _ => ?_) (fun hk => ?_)
  · refine zz_goto (tgt := 2755) dL_law_2515 (by decide) ?_
    refine zz_lvs (lv2 := LV i) (fun q hq => by simp only [List.mem_cons, List.not_mem_nil, or_false] at hq; rcases hq with rfl | rfl | rfl | rfl | rfl | rfl <;> simp [zz_up1, zz_up2, Value.category]) ?_
    exact zz_less (by omega) (by omega) (K _ hJ8)
  · refine zz_aload_n dL_law_2503 rfl ?_
    refine zz_iconst (v := 0) dL_law_2504 (by decide) ?_
    refine zz_lald dL_law_2505 (by omega) h66 (vp_in_nI (n := 0) (N := 1) (by omega) (by omega)) ?_
    obtain ⟨y2, e1, e2⟩ := hV hk
    cases e1
    refine zz_iload dL_law_2506 rfl ?_
    refine zz_i2l dL_law_2508 rfl ?_
    refine zz_lcmp dL_law_2509 ?_
    refine zz_if_eq (tgt := 2515) dL_law_2510 (by decide) (fun _ => ?_) (fun h => absurd (cmp_e.mpr e2) h)
    refine zz_goto (tgt := 2755) dL_law_2515 (by decide) ?_
    refine zz_lvs (lv2 := LV i) (fun q hq => by simp only [List.mem_cons, List.not_mem_nil, or_false] at hq; rcases hq with rfl | rfl | rfl | rfl | rfl | rfl <;> simp [zz_up1, zz_up2, Value.category]) ?_
    exact zz_less (by omega) (by omega) (K _ hJ8)
set_option maxHeartbeats 1000000 in
set_option maxRecDepth 20000 in
theorem L_markedAt (hi : i + 6 ≤ L) (hL : L ≤ 3072) (hJ : JJ σ) (h1 : 1 ≤ rc) (h2 : 6 ≤ rz) (K : ∀ τ, JJ τ → zz_E mL_law (some (L, xs)) 9 (rc - 1) (rz - 6) Q 2755 (LV i) [] τ) : zz_E mL_law (some (L, xs)) 9 rc rz Q 2518 (LV i) [] σ := by
  obtain ⟨k, P1, hC, hM⟩ := a_markedAt hJ (xs (i + 1))
  refine zz_aload_n dL_law_2518 rfl ?_
  refine zz_aload_n dL_law_2519 rfl ?_
  refine zz_iload dL_law_2520 rfl ?_
  refine zz_arg (j := 1) dL_law_2522 dL_law_2523 dL_law_2524 (v := 1) (by decide) (ad_1 i) (by omega) hL ?_
  refine zz_aload_n dL_law_2525 rfl ?_
  refine zz_callSH rfl hC dL_law_2526 zw_m_L_243 wYL_markedAt wDL_markedAt rfl (Nat.le_of_ble_eq_true rfl) (by decide) h1 h2 rfl (fun v9 τ9 h9 => ?_) (fun E9 τ9 h9 => by cases h9.1)
  obtain ⟨hv, hp⟩ := h9
  cases hv
  obtain ⟨⟨fs, h54⟩, dm, Q2, hdm, hC2, hQ2⟩ := hM τ9 hp
  refine zz_istore dL_law_2529 (by decide) ?_
  refine zz_aload_n dL_law_2531 rfl ?_
  refine zz_aload_n dL_law_2532 rfl ?_
  refine zz_iload dL_law_2533 rfl ?_
  refine zz_arg (j := 1) dL_law_2535 dL_law_2536 dL_law_2537 (v := 1) (by decide) (ad_1 i) (by omega) hL ?_
  refine zz_callV (ci := 5) hC2 dL_law_2538 zw_m_L_245 wYX5_markedAt wDX5_markedAt rfl (by omega) h54 rfl (Nat.le_of_ble_eq_true rfl) (by omega) (Nat.zero_le _) (Nat.zero_le _) rfl (fun v8 τ8 h8 => ?_) (fun E8 τ8 h8 => by obtain ⟨b, hb, _⟩ := hQ2 _ _ h8; cases hb)
  obtain ⟨b, hb, hT, hJK⟩ := hQ2 _ _ h8
  cases hb
  obtain ⟨y, rfl⟩ := hT
  refine zz_istore dL_law_2541 (by decide) ?_
  have hJ8 := JK_J hJK
  obtain ⟨⟨n8, MB8, MI8, T8, rfl⟩, ⟨o8, h66, hV⟩, ⟨w8, h67, hY⟩⟩ := JK_at hJK
  refine zz_aload_n dL_law_2543 rfl ?_
  refine zz_callV1 (ci := 5) m_thrown dL_law_2544 zw_m_L_142 wYX5_thrown wDX5_thrown rfl (by omega) pm_o rfl (Nat.le_of_ble_eq_true rfl) (by decide) rfl ?_
  refine zz_iload dL_law_2547 rfl ?_
  refine zz_icmp_eq (tgt := 2554) dL_law_2549 (by decide) (fun _ => ?_) (fun h => absurd rfl h)
  refine zz_iload dL_law_2554 rfl ?_
  refine zz_if_ne (tgt := 2571) dL_law_2556 (by decide) (fun _ => ?_) (fun hk => ?_)
  · refine zz_goto (tgt := 2755) dL_law_2571 (by decide) ?_
    refine zz_lvs (lv2 := LV i) (fun q hq => by simp only [List.mem_cons, List.not_mem_nil, or_false] at hq; rcases hq with rfl | rfl | rfl | rfl | rfl | rfl <;> simp [zz_up1, zz_up2, Value.category]) ?_
    exact zz_less (by omega) (by omega) (K _ hJ8)
  · refine zz_aload_n dL_law_2559 rfl ?_
    refine zz_iconst (v := 0) dL_law_2560 (by decide) ?_
    refine zz_lald dL_law_2561 (by omega) h66 (vp_in_nI (n := 0) (N := 1) (by omega) (by omega)) ?_
    obtain ⟨y2, e1, e2⟩ := hV hk
    cases e1
    refine zz_iload dL_law_2562 rfl ?_
    refine zz_i2l dL_law_2564 rfl ?_
    refine zz_lcmp dL_law_2565 ?_
    refine zz_if_eq (tgt := 2571) dL_law_2566 (by decide) (fun _ => ?_) (fun h => absurd (cmp_e.mpr e2) h)
    refine zz_goto (tgt := 2755) dL_law_2571 (by decide) ?_
    refine zz_lvs (lv2 := LV i) (fun q hq => by simp only [List.mem_cons, List.not_mem_nil, or_false] at hq; rcases hq with rfl | rfl | rfl | rfl | rfl | rfl <;> simp [zz_up1, zz_up2, Value.category]) ?_
    exact zz_less (by omega) (by omega) (K _ hJ8)
set_option maxHeartbeats 1000000 in
set_option maxRecDepth 20000 in
theorem L_meanRow (hi : i + 6 ≤ L) (hL : L ≤ 3072) (hJ : JJ σ) (h1 : 1 ≤ rc) (h2 : 6 ≤ rz) (K : ∀ τ, JJ τ → zz_E mL_law (some (L, xs)) 9 (rc - 1) (rz - 6) Q 2755 (LV i) [] τ) : zz_E mL_law (some (L, xs)) 9 rc rz Q 2587 (LV i) [] σ := by
  obtain ⟨k, P1, hC, hM⟩ := a_meanRow hJ (xs (i + 1))
  refine zz_aload_n dL_law_2587 rfl ?_
  refine zz_aload_n dL_law_2588 rfl ?_
  refine zz_iload dL_law_2589 rfl ?_
  refine zz_arg (j := 1) dL_law_2591 dL_law_2592 dL_law_2593 (v := 1) (by decide) (ad_1 i) (by omega) hL ?_
  refine zz_aload dL_law_2594 rfl ?_
  refine zz_callSH rfl hC dL_law_2596 zw_m_L_250 wYL_meanRow wDL_meanRow rfl (Nat.le_of_ble_eq_true rfl) (by decide) h1 h2 rfl (fun v9 τ9 h9 => ?_) (fun E9 τ9 h9 => by cases h9.1)
  obtain ⟨hv, hp⟩ := h9
  cases hv
  obtain ⟨⟨fs, h54⟩, dm, Q2, hdm, hC2, hQ2⟩ := hM τ9 hp
  refine zz_istore dL_law_2599 (by decide) ?_
  refine zz_aload_n dL_law_2601 rfl ?_
  refine zz_aload_n dL_law_2602 rfl ?_
  refine zz_iload dL_law_2603 rfl ?_
  refine zz_arg (j := 1) dL_law_2605 dL_law_2606 dL_law_2607 (v := 1) (by decide) (ad_1 i) (by omega) hL ?_
  refine zz_callV (ci := 5) hC2 dL_law_2608 zw_m_L_253 wYX5_meanRow wDX5_meanRow rfl (by omega) h54 rfl (Nat.le_of_ble_eq_true rfl) (by omega) (Nat.zero_le _) (Nat.zero_le _) rfl (fun v8 τ8 h8 => ?_) (fun E8 τ8 h8 => by obtain ⟨b, hb, _⟩ := hQ2 _ _ h8; cases hb)
  obtain ⟨b, hb, hT, hJK⟩ := hQ2 _ _ h8
  cases hb
  obtain ⟨y, rfl⟩ := hT
  refine zz_dstore dL_law_2611 (by decide) ?_
  have hJ8 := JK_J hJK
  obtain ⟨⟨n8, MB8, MI8, T8, rfl⟩, ⟨o8, h66, hV⟩, ⟨w8, h67, hY⟩⟩ := JK_at hJK
  refine zz_aload_n dL_law_2613 rfl ?_
  refine zz_callV1 (ci := 5) m_thrown dL_law_2614 zw_m_L_142 wYX5_thrown wDX5_thrown rfl (by omega) pm_o rfl (Nat.le_of_ble_eq_true rfl) (by decide) rfl ?_
  refine zz_iload dL_law_2617 rfl ?_
  refine zz_icmp_eq (tgt := 2624) dL_law_2619 (by decide) (fun _ => ?_) (fun h => absurd rfl h)
  refine zz_iload dL_law_2624 rfl ?_
  refine zz_if_ne (tgt := 2661) dL_law_2626 (by decide) (fun _ => ?_) (fun hk => ?_)
  · refine zz_goto (tgt := 2755) dL_law_2661 (by decide) ?_
    refine zz_lvs (lv2 := LV i) (fun q hq => by simp only [List.mem_cons, List.not_mem_nil, or_false] at hq; rcases hq with rfl | rfl | rfl | rfl | rfl | rfl <;> simp [zz_up1, zz_up2, Value.category]) ?_
    exact zz_less (by omega) (by omega) (K _ hJ8)
  · refine zz_aload dL_law_2629 rfl ?_
    refine zz_iconst (v := 0) dL_law_2631 (by decide) ?_
    refine zz_dald dL_law_2632 (by omega) h67 (vp_in_nI (n := 0) (N := 1) (by omega) (by omega)) ?_
    obtain ⟨e1, e2⟩ := hY hk
    replace e1 : y = w8 0 := by injection e1
    subst e1
    refine zz_dload dL_law_2633 rfl ?_
    refine zz_dcmp dL_law_2635 ?_
    refine zz_if_eq (tgt := 2661) dL_law_2636 (by decide) (fun _ => ?_) (fun h => absurd (by first | (rw [e2]; rfl) | (rw [show Int32.toNatClampNeg 0 = 0 from rfl, e2]; rfl)) h)
    refine zz_goto (tgt := 2755) dL_law_2661 (by decide) ?_
    refine zz_lvs (lv2 := LV i) (fun q hq => by simp only [List.mem_cons, List.not_mem_nil, or_false] at hq; rcases hq with rfl | rfl | rfl | rfl | rfl | rfl <;> simp [zz_up1, zz_up2, Value.category]) ?_
    exact zz_less (by omega) (by omega) (K _ hJ8)
set_option maxHeartbeats 1000000 in
set_option maxRecDepth 20000 in
theorem L_share (hi : i + 6 ≤ L) (hL : L ≤ 3072) (hJ : JJ σ) (h1 : 1 ≤ rc) (h2 : 6 ≤ rz) (K : ∀ τ, JJ τ → zz_E mL_law (some (L, xs)) 9 (rc - 1) (rz - 6) Q 2755 (LV i) [] τ) : zz_E mL_law (some (L, xs)) 9 rc rz Q 2664 (LV i) [] σ := by
  obtain ⟨k, P1, hC, hM⟩ := a_share hJ (xs (i + 1))
  refine zz_aload_n dL_law_2664 rfl ?_
  refine zz_aload_n dL_law_2665 rfl ?_
  refine zz_iload dL_law_2666 rfl ?_
  refine zz_arg (j := 1) dL_law_2668 dL_law_2669 dL_law_2670 (v := 1) (by decide) (ad_1 i) (by omega) hL ?_
  refine zz_aload dL_law_2671 rfl ?_
  refine zz_callSH rfl hC dL_law_2673 zw_m_L_254 wYL_share wDL_share rfl (Nat.le_of_ble_eq_true rfl) (by decide) h1 h2 rfl (fun v9 τ9 h9 => ?_) (fun E9 τ9 h9 => by cases h9.1)
  obtain ⟨hv, hp⟩ := h9
  cases hv
  obtain ⟨⟨fs, h54⟩, dm, Q2, hdm, hC2, hQ2⟩ := hM τ9 hp
  refine zz_istore dL_law_2676 (by decide) ?_
  refine zz_aload_n dL_law_2678 rfl ?_
  refine zz_aload_n dL_law_2679 rfl ?_
  refine zz_iload dL_law_2680 rfl ?_
  refine zz_arg (j := 1) dL_law_2682 dL_law_2683 dL_law_2684 (v := 1) (by decide) (ad_1 i) (by omega) hL ?_
  refine zz_callV (ci := 5) hC2 dL_law_2685 zw_m_L_256 wYX5_share wDX5_share rfl (by omega) h54 rfl (Nat.le_of_ble_eq_true rfl) (by omega) (Nat.zero_le _) (Nat.zero_le _) rfl (fun v8 τ8 h8 => ?_) (fun E8 τ8 h8 => by obtain ⟨b, hb, _⟩ := hQ2 _ _ h8; cases hb)
  obtain ⟨b, hb, hT, hJK⟩ := hQ2 _ _ h8
  cases hb
  obtain ⟨y, rfl⟩ := hT
  refine zz_fstore dL_law_2688 (by decide) ?_
  have hJ8 := JK_J hJK
  obtain ⟨⟨n8, MB8, MI8, T8, rfl⟩, ⟨o8, h66, hV⟩, ⟨w8, h67, hY⟩⟩ := JK_at hJK
  refine zz_aload_n dL_law_2690 rfl ?_
  refine zz_callV1 (ci := 5) m_thrown dL_law_2691 zw_m_L_142 wYX5_thrown wDX5_thrown rfl (by omega) pm_o rfl (Nat.le_of_ble_eq_true rfl) (by decide) rfl ?_
  refine zz_iload dL_law_2694 rfl ?_
  refine zz_icmp_eq (tgt := 2701) dL_law_2696 (by decide) (fun _ => ?_) (fun h => absurd rfl h)
  refine zz_iload dL_law_2701 rfl ?_
  refine zz_if_ne (tgt := 2739) dL_law_2703 (by decide) (fun _ => ?_) (fun hk => ?_)
  · refine zz_goto (tgt := 2755) dL_law_2739 (by decide) ?_
    refine zz_lvs (lv2 := LV i) (fun q hq => by simp only [List.mem_cons, List.not_mem_nil, or_false] at hq; rcases hq with rfl | rfl | rfl | rfl | rfl | rfl <;> simp [zz_up1, zz_up2, Value.category]) ?_
    exact zz_less (by omega) (by omega) (K _ hJ8)
  · refine zz_aload dL_law_2706 rfl ?_
    refine zz_iconst (v := 0) dL_law_2708 (by decide) ?_
    refine zz_dald dL_law_2709 (by omega) h67 (vp_in_nI (n := 0) (N := 1) (by omega) (by omega)) ?_
    obtain ⟨y2, e1, e3, e4, e2⟩ := hY hk
    cases e1
    refine zz_fload dL_law_2710 rfl ?_
    refine zz_f2d dL_law_2712 e4 ?_
    rw [show w8 (Int32.toNatClampNeg 0) = FP.f2d y from e3]
    rw [e3] at e2
    refine zz_dcmp dL_law_2713 ?_
    refine zz_if_eq (tgt := 2739) dL_law_2714 (by decide) (fun _ => ?_) (fun h => absurd (by first | (rw [e2]; rfl) | (rw [show Int32.toNatClampNeg 0 = 0 from rfl, e2]; rfl)) h)
    refine zz_goto (tgt := 2755) dL_law_2739 (by decide) ?_
    refine zz_lvs (lv2 := LV i) (fun q hq => by simp only [List.mem_cons, List.not_mem_nil, or_false] at hq; rcases hq with rfl | rfl | rfl | rfl | rfl | rfl <;> simp [zz_up1, zz_up2, Value.category]) ?_
    exact zz_less (by omega) (by omega) (K _ hJ8)
set_option maxHeartbeats 1000000 in
set_option maxRecDepth 20000 in
theorem L_endOfMarks (hJ : JJ σ) (K : ∀ τ, JJ τ → zz_E mL_law (some (L, xs)) 9 rc rz Q 2755 (LV i) [] τ) : zz_E mL_law (some (L, xs)) 9 rc rz Q 2574 (LV i) [] σ := by
  obtain ⟨v, P1, ⟨fs, h52⟩, ⟨dx, hdx, hC⟩, hM⟩ := a_eom hJ
  refine zz_aload_n dL_law_2574 rfl ?_
  refine zz_callV (ci := 4) hC dL_law_2575 zw_m_L_246 wYX4_endOfMarks wDX4_endOfMarks rfl (by omega) h52 rfl (Nat.le_of_ble_eq_true rfl) (by omega) (Nat.zero_le _) (Nat.zero_le _) rfl (fun v9 τ9 h9 => ?_) (fun E9 τ9 h9 => by cases h9.1)
  obtain ⟨hv, hp⟩ := h9
  cases hv
  obtain ⟨⟨fs2, h54⟩, dm, Q2, hdm, hC2, hQ2⟩ := hM τ9 hp
  refine zz_aload_n dL_law_2578 rfl ?_
  refine zz_callV (ci := 5) hC2 dL_law_2579 zw_m_L_249 wYX5_endOfMarks wDX5_endOfMarks rfl (by omega) h54 rfl (Nat.le_of_ble_eq_true rfl) (by omega) (Nat.zero_le _) (Nat.zero_le _) rfl (fun v8 τ8 h8 => ?_) (fun E8 τ8 h8 => by cases (hQ2 _ _ h8).1)
  obtain ⟨hb, hJ8⟩ := hQ2 _ _ h8
  cases hb
  refine zz_icmp_eq (tgt := 2755) dL_law_2582 (by decide) (fun _ => ?_) (fun h => absurd rfl h)
  exact zz_less (by omega) (by omega) (K _ hJ8)
set_option maxHeartbeats 1000000 in
set_option maxRecDepth 20000 in
theorem L_errors (hJ : JJ σ) (K : ∀ τ, JJ τ → zz_E mL_law (some (L, xs)) 9 rc rz Q 2755 (LV i) [] τ) : zz_E mL_law (some (L, xs)) 9 rc rz Q 2742 (LV i) [] σ := by
  obtain ⟨v, P1, ⟨fs, h52⟩, ⟨dx, hdx, hC⟩, hM⟩ := a_errors hJ
  refine zz_aload_n dL_law_2742 rfl ?_
  refine zz_callV (ci := 4) hC dL_law_2743 zw_m_L_257 wYX4_errors wDX4_errors rfl (by omega) h52 rfl (Nat.le_of_ble_eq_true rfl) (by omega) (Nat.zero_le _) (Nat.zero_le _) rfl (fun v9 τ9 h9 => ?_) (fun E9 τ9 h9 => by cases h9.1)
  obtain ⟨hv, hp⟩ := h9
  cases hv
  obtain ⟨⟨fs2, h54⟩, dm, Q2, hdm, hC2, hQ2⟩ := hM τ9 hp
  refine zz_aload_n dL_law_2746 rfl ?_
  refine zz_callV (ci := 5) hC2 dL_law_2747 zw_m_L_260 wYX5_errors wDX5_errors rfl (by omega) h54 rfl (Nat.le_of_ble_eq_true rfl) (by omega) (Nat.zero_le _) (Nat.zero_le _) rfl (fun v8 τ8 h8 => ?_) (fun E8 τ8 h8 => by cases (hQ2 _ _ h8).1)
  obtain ⟨hb, hJ8⟩ := hQ2 _ _ h8
  cases hb
  refine zz_icmp_eq (tgt := 2755) dL_law_2750 (by decide) (fun _ => ?_) (fun h => absurd rfl h)
  exact zz_less (by omega) (by omega) (K _ hJ8)
end ZZLC
