section ZYL
variable {p : Program} {l : Launch} {e : Env} {s : State} {m : MethodId} {below : List Frame} {meth : Method} {c : Code} {H : Heap} {locs : List Loc} {cells slots : Nat}
theorem cA_of {ty : FieldType} {args : Array Value} {s : State} (h : (Cond.arrayClass ty).before args s = true) (hno : ∀ (U : State) (x : ClassId), U.vm.findClass ("[" ++ ty.toString) = some x → va_RA U x ty) (hnc : ∀ C, ty ≠ .object C) (hna : ∀ t, ty ≠ .array t) : ∃ x : ClassId, ArrOfT s x ty ∧ va_RA s x ty := by
  obtain ⟨x, kA, comp, h1, h2, h3⟩ := Cond.arrayClass_spec h
  exact ⟨x, fun N z => ⟨(fun k h9 => by cases h9), kA, h2, comp, h3⟩, hno s x h1⟩
theorem cA_ofq {C : String} {args : Array Value} {s : State} (h : (Cond.arrayOver (.object C)).before args s = true) : ∃ x : ClassId, ArrOfT s x (.object C) ∧ va_RA s x (.object C) := by
  obtain ⟨comp, x, kA, h1, -, h2, h3, h4⟩ := Cond.arrayOver_spec h
  exact ⟨x, fun N z => ⟨(fun k h9 => by cases h9), kA, h2, comp, h3⟩, kA, comp, h2, h3, h1, h4⟩
set_option maxHeartbeats 4000000 in
set_option maxRecDepth 100000 in
/-- what a throw needs, at the law's entry -/
theorem lw_Zz {b : Nat} (hts : ∀ w ∈ lw_tbl, w.before #[Value.ref b] s = true) (hgv : (Jvm.Cond.and given_1 narrow_1).before #[Value.ref b] s = true) : zz_Z (fun q : Nat => s.heap.size ≤ q) s s.heap := by
  have hs := flat_of_before _ hgv
  have hA : ∀ a : Nat, a < s.heap.size → ¬ (fun q : Nat => s.heap.size ≤ q) a := fun a h => Nat.not_le.mpr h
  have str : ∀ (k : Nat) (tx : String), (Cond.stringRef RX4 k tx).before #[Value.ref b] s = true → (Cond.exactly (.string RX4 k) "java/lang/String").before #[Value.ref b] s = true → ∃ a, vk_R RX4 k tx a s := fun k tx h1 h2 => by
    obtain ⟨a, _, _, _, h3, -⟩ := Cond.exactly_spec h2
    exact ⟨a, vk_R.of h1 h3⟩
  refine ⟨vx_Zqof (hts _ (by decide +kernel)) (hts _ (by decide +kernel)) (hs _ (by decide +kernel)) hA, vx_Zqof (hts _ (by decide +kernel)) (hts _ (by decide +kernel)) (hs _ (by decide +kernel)) hA, ?_, ?_, ?_, ?_⟩
  · intro x hx
    simp only [zz_txt, List.mem_cons, List.not_mem_nil, or_false] at hx
    rcases hx with rfl | rfl | rfl | rfl | rfl | rfl | rfl | rfl | rfl | rfl | rfl <;> exact str _ _ (hts _ (by decide +kernel)) (hs _ (by decide +kernel))
  · intro x hx
    simp only [zz_nc, List.mem_cons, List.not_mem_nil, or_false] at hx
    rcases hx with rfl | rfl | rfl | rfl | rfl | rfl <;> first | exact va_Nc.of (hs _ (by decide +kernel)) | exact va_Nc.of (hts _ (by decide +kernel))
  · intro x hx
    simp only [zz_exc, List.mem_cons, List.not_mem_nil, or_false] at hx
    rcases hx with rfl | rfl | rfl | rfl <;> exact va_Nw.of rfl (hts _ (by decide +kernel))
  · intro x hx
    simp only [zz_dec, List.mem_cons, List.not_mem_nil, or_false] at hx
    rcases hx with rfl | rfl | rfl <;> exact va_Nw.of rfl (hts _ (by decide +kernel))
theorem lw_Zn {b : Nat} (hts : ∀ w ∈ lw_tbl, w.before #[Value.ref b] s = true) : zn_Z s := by
  refine ⟨va_AO.of (hts _ (by decide +kernel)), ?_⟩
  intro x hx
  simp only [zn_nest, List.mem_cons, List.not_mem_nil, or_false] at hx
  rcases hx with rfl | rfl | rfl | rfl | rfl | rfl | rfl | rfl | rfl <;> exact va_Nw.of rfl (hts _ (by decide +kernel))
theorem lw_St (hf : l.flags = flags0) : l.stackTraces = false := by
  unfold Launch.stackTraces
  rw [hf]
  decide +kernel
set_option maxHeartbeats 4000000 in
set_option maxRecDepth 100000 in
/-- the script into the draws' number -/
theorem lw_scr {G : va_G} {cA : Nat → ClassId} {b L q : Nat} {xs : Nat → Int32} {Qf : State → Prop} (hx : p.tables.exec = Jvm.exec) (hb : c.code = code) (hK : va_K G vwCl (zz_tys cA) s) (hX : va_X b L xs s s.heap) (hbl : b < s.heap.size) (hL : L ≤ 260)
    (kk : ∀ (rho : Nat → Int32) (H : Heap) (locs : List Loc) (ls : Array Slot), va_P G vwCl [(q, .inl (cA 0, 1, .inl rho))] H → va_D (fun q : Nat => s.heap.size ≤ q) [(q, .inl (cA 0, 1, .inl rho))] → va_S (fun q : Nat => s.heap.size ≤ q) s.heap H locs → lv_has ls 5 [(1, .ref q), (0, .ref b)] → W p l e room_1 s m #[Value.ref b] below meth c H locs 1 1 Qf (F0 m 36 ls [])) :
    ∀ (k i : Nat), i + k = L → ∀ (rho : Nat → Int32) (H : Heap) (locs : List Loc) (ls : Array Slot), va_P G vwCl [(q, .inl (cA 0, 1, .inl rho))] H → va_D (fun q : Nat => s.heap.size ≤ q) [(q, .inl (cA 0, 1, .inl rho))] → va_S (fun q : Nat => s.heap.size ≤ q) s.heap H locs → lv_has ls 5 [(2, .int (nI i)), (1, .ref q), (0, .ref b)] → W p l e room_1 s m #[Value.ref b] below meth c H locs 1 1 Qf (F0 m 11 ls []) := by
  have hbA : ¬ (fun q : Nat => s.heap.size ≤ q) b := Nat.not_le.mpr hbl
  intro k
  induction k with
  | zero =>
    intro i hi rho H locs ls hP hD hS hl
    refine lv_iload_n hx hb dL_law_11 rfl (lv_at hl 0 rfl) ?_
    refine lv_aload_n hx hb dL_law_12 rfl (lv_at hl 2 rfl) ?_
    refine va_slen hx hb hX hbl hbA hS dL_law_13 ?_
    refine lv_icmp_ge (tgt := 36) hx hb dL_law_14 (by decide) (fun _ => kk rho H locs ls hP hD hS (lv_sub hl [1, 2] rfl)) (fun h => absurd (nI_le (a := L) (b := i) (by omega) (by omega)) h)
  | succ k ih =>
    intro i hi rho H locs ls hP hD hS hl
    refine lv_iload_n hx hb dL_law_11 rfl (lv_at hl 0 rfl) ?_
    refine lv_aload_n hx hb dL_law_12 rfl (lv_at hl 2 rfl) ?_
    refine va_slen hx hb hX hbl hbA hS dL_law_13 ?_
    refine lv_icmp_ge (tgt := 36) hx hb dL_law_14 (by decide) (fun h => absurd h (nI_ge (a := i) (b := L) (by omega) (by omega))) (fun _ => ?_)
    refine lv_aload_n hx hb dL_law_17 rfl (lv_at hl 1 rfl) ?_
    refine lv_iconst (v := 0) hx hb dL_law_18 (by decide) ?_
    refine lv_bipush (v := 31) hx hb dL_law_19 (by decide) ?_
    refine lv_aload_n hx hb dL_law_21 rfl (lv_at hl 1 rfl) ?_
    refine lv_iconst (v := 0) hx hb dL_law_22 (by decide) ?_
    refine va_iald hx hb hK hP 0 0 rfl rfl (vp_in_nI (n := 0) (N := 1) (by omega) (by omega)) dL_law_23 ?_
    refine lv_imul hx hb dL_law_24 ?_
    refine lv_aload_n hx hb dL_law_25 rfl (lv_at hl 2 rfl) ?_
    refine lv_iload_n hx hb dL_law_26 rfl (lv_at hl 0 rfl) ?_
    refine va_sld hx hb hX hbl hbA hS (vp_in_nI (n := i) (N := L) (by omega) (by omega)) dL_law_27 ?_
    refine lv_iadd hx hb dL_law_28 ?_
    refine va_iast hx hb hK hP hD hS 0 0 rfl rfl (vp_in_nI (n := 0) (N := 1) (by omega) (by omega)) dL_law_29 (fun H1 locs1 hP1 hD1 hS1 => ?_)
    refine lv_iinc (v := nI (i + 1)) (lv' := [(2, .int (nI (i + 1))), (1, .ref q), (0, .ref b)]) hx hb dL_law_30 hl (k := 0) rfl (nI_1 i) (by decide) rfl (fun ls2 hl2 => ?_)
    refine lv_goto (tgt := 11) hx hb dL_law_33 (by decide) ?_
    exact ih (i + 1) (by omega) _ _ _ _ hP1 hD1 hS1 hl2
set_option maxHeartbeats 4000000 in
set_option maxRecDepth 100000 in
/-- THE LAW, from its entry -/
theorem whole_start {p : Program} {e : Env} {s : State} {m : MethodId} {below : List Frame} {meth : Method} {c : Code} (l : Launch) (hflags : l.flags = flags0) {b L : Nat} {xs : Nat → Int32} (hL : L ≤ 260) (C0 : lw_At p s m meth c b L xs) : W p l e room_1 s m #[Value.ref b] below meth c s.heap [] 0 0 (lw_Z below #[Value.ref b] s) (entryFrame m ([Value.ref b] : List Value).toArray 5) := by
  obtain ⟨hx, hb, hr, hml, hown, hts, hX, hbl, hlocks, hgv⟩ := id C0
  have htg : ∀ w ∈ zz_g, w.before #[Value.ref b] s = true := fun w hw => hts w (zz_g_tbl w hw)
  have hA : ∀ q : Nat, s.heap.size ≤ q → (fun q : Nat => s.heap.size ≤ q) q := fun _ h => h
  obtain ⟨k0, i0, hKn0⟩ := u_known (C := RX0) (T := TX0) (N := 2) (n := 2) htg zz_inX0 (htg _ zw_b_X0)
  obtain ⟨k1, i1, hKn1⟩ := u_known (C := RX1) (T := TX1) (N := 4) (n := 4) htg zz_inX1 (htg _ zw_b_X1)
  obtain ⟨k2, i2, hKn2⟩ := u_known (C := RX2) (T := TX2) (N := 7) (n := 7) htg zz_inX2 (htg _ zw_b_X2)
  obtain ⟨k3, i3, hKn3⟩ := u_known (C := RX3) (T := TX3) (N := 6) (n := 6) htg zz_inX3 (htg _ zw_b_X3)
  obtain ⟨k4, i4, hKn4⟩ := u_known (C := RX4) (T := TX4) (N := 7) (n := 7) htg zz_inX4 (htg _ zw_b_X4)
  obtain ⟨G, hKc⟩ : ∃ G : va_G, ∀ (k : Nat) (q : vw_C), vwCl[k]? = some q → u_Kn s q.1 q.2.1 q.2.2 (G.1 k) (G.2 k) := by
    refine ⟨(fun k => if k = 0 then k0 else if k = 1 then k1 else if k = 2 then k2 else if k = 3 then k3 else k4, fun k => if k = 0 then i0 else if k = 1 then i1 else if k = 2 then i2 else if k = 3 then i3 else i4), ?_⟩
    intro k q hq
    match k, hq with
    | 0, hq => cases hq; exact hKn0
    | 1, hq => cases hq; exact hKn1
    | 2, hq => cases hq; exact hKn2
    | 3, hq => cases hq; exact hKn3
    | 4, hq => cases hq; exact hKn4
    | k + 5, hq => simp [vwCl] at hq
  obtain ⟨y0, hy0⟩ := cA_of (htg _ zw_a_int) (fun _ _ h9 => h9) (fun _ h9 => by cases h9) (fun _ h9 => by cases h9)
  obtain ⟨y1, hy1⟩ := cA_of (htg _ zw_a_long) (fun _ _ h9 => h9) (fun _ h9 => by cases h9) (fun _ h9 => by cases h9)
  obtain ⟨y2, hy2⟩ := cA_of (htg _ zw_a_boolean) (fun _ _ h9 => h9) (fun _ h9 => by cases h9) (fun _ h9 => by cases h9)
  obtain ⟨y3, hy3⟩ := cA_ofq (C := RX1) (hts _ (by decide +kernel) : (Cond.arrayOver (.object RX1)).before #[Value.ref b] s = true)
  obtain ⟨cA, hcA0, hcA1, hcA2, hcA3, hcA4⟩ : ∃ cA : Nat → ClassId, cA 0 = y0 ∧ cA 1 = y1 ∧ cA 2 = y2 ∧ cA 3 = y3 ∧ cA 4 = y0 := ⟨fun k => if k = 0 then y0 else if k = 1 then y1 else if k = 2 then y2 else if k = 3 then y3 else y0, rfl, rfl, rfl, rfl, rfl⟩
  subst hcA0; subst hcA1; subst hcA2; subst hcA3
  have hK : va_K G vwCl (zz_tys cA) s := by
    refine ⟨hKc, fun k q hq => ?_⟩
    match k, hq with
    | 0, hq => cases hq; exact hy0
    | 1, hq => cases hq; exact hy1
    | 2, hq => cases hq; exact hy2
    | 3, hq => cases hq; exact hy3
    | 4, hq => cases hq; rw [hcA4]; exact hy0
    | k + 5, hq => simp [zz_tys] at hq
  have hZn : zn_Z s := lw_Zn hts
  have hZz : zz_Z (fun q : Nat => s.heap.size ≤ q) s s.heap := lw_Zz hts hgv
  have hst := lw_St hflags
  have hS : va_S (fun q : Nat => s.heap.size ≤ q) s.heap s.heap [] := va_S.rf
  have hP : va_P G vwCl [] s.heap := fun k q h => by simp at h
  have hD : va_D (fun q : Nat => s.heap.size ≤ q) [] := ⟨fun i j p q h => by simp at h, fun k q h => by simp at h⟩
  have hl := lv_entry ([.ref b]) (n := 5) (Nat.le_of_ble_eq_true rfl)
  rw [lg_entry_eq]
  generalize (lg_sl ([.ref b]) ++ List.replicate (5 - (lg_sl ([.ref b])).length) Slot.unset).toArray = ls at hl ⊢
  have hl : lv_has ls 5 [(0, .ref b)] := hl
  refine lv_iconst (v := 1) hx hb dL_law_0 (by decide) ?_
  refine va_newa (atype := .int) (ty := .int) (a0 := (1, .inl (fun _ => 0))) (N' := 1) hx hb (htg _ zw_a_int) rfl hK hP hD hS hA (fun _ => rfl) (by decide) (by decide) (Nat.le_of_ble_eq_true rfl) (Nat.le_of_ble_eq_true rfl) (Nat.le_of_ble_eq_true rfl) dL_law_1 (fun q cB H hK1 hP hD hS => ?_)
  obtain rfl : cB = cA 0 := Option.some.inj ((hK1.2 5 (cB, .int) rfl).2.symm.trans (hK.2 0 (cA 0, .int) rfl).2)
  clear hK1
  refine W.widen (k := 1) (n := 1) (by omega) (by omega) ?_
  have hP : va_P G vwCl [(q, .inl (cA 0, 1, .inl (fun _ => 0)))] H := hP
  have hD : va_D (fun q : Nat => s.heap.size ≤ q) [(q, .inl (cA 0, 1, .inl (fun _ => 0)))] := hD
  refine lv_dup hx hb dL_law_3 rfl ?_
  refine lv_iconst (v := 0) hx hb dL_law_4 (by decide) ?_
  refine lv_ldc hx hb hown (htg _ zw_k_L_214) dL_law_5 ?_
  refine va_iast hx hb hK hP hD hS 0 0 rfl rfl (vp_in_nI (n := 0) (N := 1) (by omega) (by omega)) dL_law_7 (fun H1 locs1 hP1 hD1 hS1 => ?_)
  refine lv_astore_n (lv' := [(1, .ref q), (0, .ref b)]) hx hb dL_law_8 rfl hl (by decide) rfl (fun ls hl => ?_)
  refine lv_iconst (v := 0) hx hb dL_law_9 (by decide) ?_
  refine lv_istore_n (lv' := [(2, .int 0), (1, .ref q), (0, .ref b)]) hx hb dL_law_10 rfl hl (by decide) rfl (fun ls hl => ?_)
  refine lw_scr (G := G) (cA := cA) (q := q) hx hb hK hX hbl hL (fun rho H locs ls hP hD hS hl => ?_) L 0 (by omega) _ _ _ _ hP1 hD1 hS1 hl
  refine lv_sipush (v := 6480) hx hb dL_law_36 (by decide) ?_
  refine va_newa (atype := .boolean) (ty := .boolean) (a0 := (6480, .inl (fun _ => 0))) (N' := 6480) hx hb (htg _ zw_a_boolean) rfl hK hP hD hS hA (fun _ => rfl) (by decide) (by decide) (Nat.le_of_ble_eq_true rfl) (Nat.le_of_ble_eq_true rfl) (Nat.le_of_ble_eq_true rfl) dL_law_39 (fun q1 cB H hK1 hP hD hS => ?_)
  obtain rfl : cB = cA 2 := Option.some.inj ((hK1.2 5 (cB, .boolean) rfl).2.symm.trans (hK.2 2 (cA 2, .boolean) rfl).2)
  clear hK1
  refine W.widen (k := 2) (n := 6481) (by omega) (by omega) ?_
  have hP : va_P G vwCl [(q, .inl (cA 0, 1, .inl rho)), (q1, .inl (cA 2, 6480, .inl (fun _ => 0)))] H := hP
  have hD : va_D (fun q : Nat => s.heap.size ≤ q) [(q, .inl (cA 0, 1, .inl rho)), (q1, .inl (cA 2, 6480, .inl (fun _ => 0)))] := hD
  refine lv_astore_n (lv' := [(2, .ref q1), (1, .ref q), (0, .ref b)]) hx hb dL_law_41 rfl hl (by decide) rfl (fun ls hl => ?_)
  refine lv_sipush (v := 6480) hx hb dL_law_42 (by decide) ?_
  refine va_newa (atype := .boolean) (ty := .boolean) (a0 := (6480, .inl (fun _ => 0))) (N' := 6480) hx hb (htg _ zw_a_boolean) rfl hK hP hD hS hA (fun _ => rfl) (by decide) (by decide) (Nat.le_of_ble_eq_true rfl) (Nat.le_of_ble_eq_true rfl) (Nat.le_of_ble_eq_true rfl) dL_law_45 (fun q2 cB H hK1 hP hD hS => ?_)
  obtain rfl : cB = cA 2 := Option.some.inj ((hK1.2 5 (cB, .boolean) rfl).2.symm.trans (hK.2 2 (cA 2, .boolean) rfl).2)
  clear hK1
  refine W.widen (k := 3) (n := 12961) (by omega) (by omega) ?_
  have hP : va_P G vwCl [(q, .inl (cA 0, 1, .inl rho)), (q1, .inl (cA 2, 6480, .inl (fun _ => 0))), (q2, .inl (cA 2, 6480, .inl (fun _ => 0)))] H := hP
  have hD : va_D (fun q : Nat => s.heap.size ≤ q) [(q, .inl (cA 0, 1, .inl rho)), (q1, .inl (cA 2, 6480, .inl (fun _ => 0))), (q2, .inl (cA 2, 6480, .inl (fun _ => 0)))] := hD
  refine lv_astore_n (lv' := [(3, .ref q2), (2, .ref q1), (1, .ref q), (0, .ref b)]) hx hb dL_law_47 rfl hl (by decide) rfl (fun ls hl => ?_)
  refine lv_sipush (v := 6480) hx hb dL_law_48 (by decide) ?_
  refine va_newa (atype := .boolean) (ty := .boolean) (a0 := (6480, .inl (fun _ => 0))) (N' := 6480) hx hb (htg _ zw_a_boolean) rfl hK hP hD hS hA (fun _ => rfl) (by decide) (by decide) (Nat.le_of_ble_eq_true rfl) (Nat.le_of_ble_eq_true rfl) (Nat.le_of_ble_eq_true rfl) dL_law_51 (fun q3 cB H hK1 hP hD hS => ?_)
  obtain rfl : cB = cA 2 := Option.some.inj ((hK1.2 5 (cB, .boolean) rfl).2.symm.trans (hK.2 2 (cA 2, .boolean) rfl).2)
  clear hK1
  refine W.widen (k := 4) (n := 19441) (by omega) (by omega) ?_
  have hP : va_P G vwCl [(q, .inl (cA 0, 1, .inl rho)), (q1, .inl (cA 2, 6480, .inl (fun _ => 0))), (q2, .inl (cA 2, 6480, .inl (fun _ => 0))), (q3, .inl (cA 2, 6480, .inl (fun _ => 0)))] H := hP
  have hD : va_D (fun q : Nat => s.heap.size ≤ q) [(q, .inl (cA 0, 1, .inl rho)), (q1, .inl (cA 2, 6480, .inl (fun _ => 0))), (q2, .inl (cA 2, 6480, .inl (fun _ => 0))), (q3, .inl (cA 2, 6480, .inl (fun _ => 0)))] := hD
  refine lv_astore (lv' := [(4, .ref q3), (3, .ref q2), (2, .ref q1), (1, .ref q), (0, .ref b)]) hx hb dL_law_53 hl (by decide) rfl (fun ls hl => ?_)
  have hP := hP.sub (ws' := zp_W cA q1 q2 q3 q (fun _ _ => false) rho) [1, 2, 3, 0] rfl
  have hD := hD.sub (ws' := zp_W cA q1 q2 q3 q (fun _ _ => false) rho) [1, 2, 3, 0] (by decide) rfl
  refine lv_aload_n hx hb dL_law_55 rfl (lv_at hl 3 rfl) ?_
  refine lv_aload_n hx hb dL_law_56 rfl (lv_at hl 2 rfl) ?_
  refine lv_aload_n hx hb dL_law_57 rfl (lv_at hl 1 rfl) ?_
  refine lv_aload hx hb dL_law_58 (lv_at hl 0 rfl) ?_
  have hFc := va_free (wc := (zp_W cA q1 q2 q3 q (fun _ _ => false) rho)) hD hS hA [0, 1, 2, 3] rfl
  refine va_calli (va_runS (As := [.ref q, .ref q1, .ref q2, .ref q3]) (rest := []) (bytes := mL_plays.2.1) (maxL := mL_plays.2.2.1) (ret := mL_plays.2.2.2.1) (own := RL) (y := mL_plays.1) (n := 4) ⟨hx, hb, hml, hown, htg⟩ (c_plays (G := G) (cA := cA) (fun _ _ => false) rho l hst H.size)
    (va_cwS (ws' := zz_g) 4 htg (zz_goodS wYL_plays.1 zw_m_L_215 wYL_plays.2.2.1 wYL_plays.2.2.2.1 wYL_plays.2.2.2.2) rfl rfl rfl ⟨wDL_plays.1.1, wDL_plays.1.2, wDL_plays.2⟩ ⟨Nat.le_of_ble_eq_true rfl, Nat.le_of_ble_eq_true rfl⟩)
    ⟨fun a U g mk w => ⟨w.1, w.2.1, w.2.2.1, va_K.moved (u := U) (U := U.calling g mk a) (Vm.Alike.refl U.vm) w.2.2.2.1, zn_Z_call g mk a w.2.2.2.2.1, zz_Z_call g mk a w.2.2.2.2.2.1, w.2.2.2.2.2.2⟩, fun U hU hW => ⟨rfl, by rw [hU], by rw [hU]; exact hP, va_K.moved hW.alike hK, zn_Z_warm hZn hW, by rw [hU]; exact zz_Z_down hZz hW hS.2.1 hFc, hD.weaken (fun _ _ _ _ => trivial)⟩⟩
    rfl rfl hl.1 rfl (lv_room (Nat.le_of_ble_eq_true rfl)) dL_law_60 ⟨Nat.le_of_ble_eq_true rfl, Nat.le_of_ble_eq_true rfl⟩) hS (fun z _ h => hFc z h) hFc (fun r u t H1 locs1 ht hal hr1 hB hz hk hS => ?_)
  obtain ⟨MB1, rho1⟩ := u
  have hP : va_P G vwCl (zp_W cA q1 q2 q3 q MB1 rho1) H1 := by rw [← ht]; exact hB
  have hD : va_D (fun q : Nat => s.heap.size ≤ q) (zp_W cA q1 q2 q3 q MB1 rho1) := zp_WD hD
  have hr1 : r = 1 := hr1
  subst hr1
  clear hFc hk hz hB ht hal
  generalize H1 = H at hP hS ⊢
  refine W.widen (k := 19558) (n := 138067) (by omega) (by omega) ?_
  refine lv_if_eq (tgt := 81) hx hb dL_law_63 (by decide) (fun h => absurd h (by decide)) (fun _ => ?_)
  refine lv_aload_n hx hb dL_law_66 rfl (lv_at hl 3 rfl) ?_
  refine lv_aload_n hx hb dL_law_67 rfl (lv_at hl 2 rfl) ?_
  refine lv_aload_n hx hb dL_law_68 rfl (lv_at hl 1 rfl) ?_
  refine lv_aload hx hb dL_law_69 (lv_at hl 0 rfl) ?_
  have hFc := va_free (wc := (zp_W cA q1 q2 q3 q MB1 rho1)) hD hS hA [0, 1, 2, 3] rfl
  refine va_calli (va_runS (As := [.ref q, .ref q1, .ref q2, .ref q3]) (rest := []) (bytes := mL_plays.2.1) (maxL := mL_plays.2.2.1) (ret := mL_plays.2.2.2.1) (own := RL) (y := mL_plays.1) (n := 4) ⟨hx, hb, hml, hown, htg⟩ (c_plays (G := G) (cA := cA) MB1 rho1 l hst H.size)
    (va_cwS (ws' := zz_g) 4 htg (zz_goodS wYL_plays.1 zw_m_L_215 wYL_plays.2.2.1 wYL_plays.2.2.2.1 wYL_plays.2.2.2.2) rfl rfl rfl ⟨wDL_plays.1.1, wDL_plays.1.2, wDL_plays.2⟩ ⟨Nat.le_of_ble_eq_true rfl, Nat.le_of_ble_eq_true rfl⟩)
    ⟨fun a U g mk w => ⟨w.1, w.2.1, w.2.2.1, va_K.moved (u := U) (U := U.calling g mk a) (Vm.Alike.refl U.vm) w.2.2.2.1, zn_Z_call g mk a w.2.2.2.2.1, zz_Z_call g mk a w.2.2.2.2.2.1, w.2.2.2.2.2.2⟩, fun U hU hW => ⟨rfl, by rw [hU], by rw [hU]; exact hP, va_K.moved hW.alike hK, zn_Z_warm hZn hW, by rw [hU]; exact zz_Z_down hZz hW hS.2.1 hFc, hD.weaken (fun _ _ _ _ => trivial)⟩⟩
    rfl rfl hl.1 rfl (lv_room (Nat.le_of_ble_eq_true rfl)) dL_law_71 ⟨Nat.le_of_ble_eq_true rfl, Nat.le_of_ble_eq_true rfl⟩) hS (fun z _ h => hFc z h) hFc (fun r u t H1 locs1 ht hal hr1 hB hz hk hS => ?_)
  obtain ⟨MB2, rho2⟩ := u
  have hP : va_P G vwCl (zp_W cA q1 q2 q3 q MB2 rho2) H1 := by rw [← ht]; exact hB
  have hD : va_D (fun q : Nat => s.heap.size ≤ q) (zp_W cA q1 q2 q3 q MB2 rho2) := zp_WD hD
  have hr1 : r = 1 := hr1
  subst hr1
  clear hFc hk hz hB ht hal
  generalize H1 = H at hP hS ⊢
  refine W.widen (k := 39112) (n := 256693) (by omega) (by omega) ?_
  refine lv_if_eq (tgt := 81) hx hb dL_law_74 (by decide) (fun h => absurd h (by decide)) (fun _ => ?_)
  refine lv_iconst (v := 1) hx hb dL_law_77 (by decide) ?_
  refine lv_goto (tgt := 82) hx hb dL_law_78 (by decide) ?_
  refine va_forget (fun z hz => hS.2.2 z hz) ?_
  refine W.widen (k := 600086) (n := 7301442) (by omega) (by omega) ?_
  exact W.base (lw_ret (Drawn.sameBut.refl s.drawn lw_cs) hx hb hr hlocks dL_law_82)
end ZYL
