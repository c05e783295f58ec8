section ZYN
/-! a thing made in the middle: positions 58, 59 -/
theorem arr4 {cI : ClassId} {f g : Nat → Value} (h0 : f 0 = g 0) (h1 : f 1 = g 1) (h2 : f 2 = g 2) (h3 : f 3 = g 3) : arrV cI 4 f = arrV cI 4 g := by
  have e : (fun j : Fin 4 => f j.val) = (fun j : Fin 4 => g j.val) := by
    funext ⟨j, hj⟩
    rcases (show j = 0 ∨ j = 1 ∨ j = 2 ∨ j = 3 by omega) with rfl | rfl | rfl | rfl
    · exact h0
    · exact h1
    · exact h2
    · exact h3
  unfold arrV
  rw [e]
theorem cell4 {cI : ClassId} {f g : Nat → Option Nat} (h0 : f 0 = g 0) (h1 : f 1 = g 1) (h2 : f 2 = g 2) (h3 : f 3 = g 3) : vp_cell cI (4, .inr (.inr (.inr (.inr f)))) = vp_cell cI (4, .inr (.inr (.inr (.inr g)))) := by
  rw [vp_cell_q, vp_cell_q]
  exact arr4 (congrArg va_rf h0) (congrArg va_rf h1) (congrArg va_rf h2) (congrArg va_rf h3)
variable {El : Nat → Int32} {Lo Hi : Nat → Nat → Int64} {BL BH : Nat → Int64} {Od : Nat → Nat → Int32} {Ls : Nat → Int32} {nn : Int32} {MB MB2 : Nat → Nat → Bool} {rho nu nu2 : Nat → Int32} {T T2 : zz_St}
theorem px_E1 {ad ad' : Nat → Nat} {cA : Nat → ClassId} (he : ∀ q, q < 58 → ad' q = ad q) (hb : ∀ p, 54 ≤ p → p < 57 → MB2 p = MB p) {k : Nat} (hk : k < 58) (h53 : k ≠ 53) : zz_E1 ad' cA (px El Lo Hi BL BH Od Ls nn (pl MB2 rho nu2 T2) k) = zz_E1 ad cA (px El Lo Hi BL BH Od Ls nn (pl MB rho nu T) k) := by
  by_cases q0 : k < 8
  · simp only [px, if_pos q0, zz_E1, List.map_cons, List.map_nil, zz_V, he (8 + k) (by omega), he (16 + k) (by omega), he (24 + k) (by omega)]
  by_cases q1 : k < 16
  · simp only [px, if_neg q0, if_pos q1, zz_E1]
  by_cases q2 : k < 24
  · simp only [px, if_neg q0, if_neg q1, if_pos q2, zz_E1]
  by_cases q3 : k < 46
  · simp only [px, if_neg q0, if_neg q1, if_neg q2, if_pos q3, zz_E1, List.map_cons, List.map_nil, zz_V]
  by_cases q4 : k < 48
  · simp only [px, if_neg q0, if_neg q1, if_neg q2, if_neg q3, if_pos q4, zz_E1]
  by_cases q5 : k = 48
  · simp only [px, if_neg q0, if_neg q1, if_neg q2, if_neg q3, if_neg q4, if_pos q5, zz_E1]
  by_cases q6 : k < 51
  · simp only [px, if_neg q0, if_neg q1, if_neg q2, if_neg q3, if_neg q4, if_neg q5, if_pos q6, zz_E1, List.map_cons, List.map_nil, zz_V, he (34 + 5 * (k - 49)) (by omega), he (35 + 5 * (k - 49)) (by omega), he (36 + 5 * (k - 49)) (by omega), he (37 + 5 * (k - 49)) (by omega), he (38 + 5 * (k - 49)) (by omega), he (46 + (k - 49)) (by omega)]
  by_cases q7 : k = 51
  · simp only [px, if_neg q0, if_neg q1, if_neg q2, if_neg q3, if_neg q4, if_neg q5, if_neg q6, if_pos q7, zz_E1, List.map_cons, List.map_nil, zz_V, he 50 (by omega), he 5 (by omega), he 6 (by omega), he 7 (by omega), he 44 (by omega), he 45 (by omega), he 48 (by omega)]
  by_cases q8 : k = 52
  · simp only [px, if_neg q0, if_neg q1, if_neg q2, if_neg q3, if_neg q4, if_neg q5, if_neg q6, if_neg q7, if_pos q8, zz_E1, List.map_cons, List.map_nil, zz_V, he 53 (by omega), he 32 (by omega), he 33 (by omega), he 4 (by omega), he 49 (by omega), he 51 (by omega)]
  by_cases q9 : k = 57
  · subst q9
    rfl
  · have h4 : 54 ≤ k ∧ k < 57 := by omega
    rw [pq_b h4, pq_b h4, hb k h4.1 h4.2]
    rfl
theorem px_at {G : va_G} {cA : Nat → ClassId} {ad ad' : Nat → Nat} {H : Heap} (he : ∀ q, q < 58 → ad' q = ad q) (hb : ∀ p, 54 ≤ p → p < 57 → MB2 p = MB p) {k : Nat} (hk : k < 58) (h : va_at G vwCl (ad k, zz_E1 ad cA (px El Lo Hi BL BH Od Ls nn (pl MB rho nu T) k)) H) : va_at G vwCl (ad' k, zz_E1 ad' cA (px El Lo Hi BL BH Od Ls nn (pl MB2 rho nu2 T2) k)) H := by
  by_cases h53 : k = 53
  · subst h53
    rw [he 53 (by omega)]
    have h' : H[ad 53]? = some (vp_cell (cA 3) (4, .inr (.inr (.inr (.inr (fun i => (some i).map ad)))))) := h
    show H[ad 53]? = some (vp_cell (cA 3) (4, .inr (.inr (.inr (.inr (fun i => (some i).map ad'))))))
    rw [h']
    refine congrArg some (cell4 ?_ ?_ ?_ ?_)
    · show some (ad 0) = some (ad' 0)
      rw [he 0 (by omega)]
    · show some (ad 1) = some (ad' 1)
      rw [he 1 (by omega)]
    · show some (ad 2) = some (ad' 2)
      rw [he 2 (by omega)]
    · show some (ad 3) = some (ad' 3)
      rw [he 3 (by omega)]
  · rw [he k hk, px_E1 he hb hk h53]
    exact h
def zz_rl (N : Nat) (v : Value) : Prop := ∀ x, v = .ref x → x < N
theorem zz_rl_V {N : Nat} {ad ad' : Nat → Nat} (he : ∀ q, q < N → ad' q = ad q) {v : Value} (h : zz_rl N v) : zz_V ad' v = zz_V ad v := by
  cases v with
  | ref x =>
    show Value.ref (ad' x) = .ref (ad x)
    rw [he x (h x rfl)]
  | _ => rfl
theorem zz_rl_LV {N : Nat} {ad ad' : Nat → Nat} (he : ∀ q, q < N → ad' q = ad q) {lv : List (Nat × Value)} (h : ∀ q ∈ lv, zz_rl N q.2) : zz_LV ad' lv = zz_LV ad lv := by
  unfold zz_LV
  exact List.map_congr_left (fun q hq => by rw [zz_rl_V he (h q hq)])
theorem zz_rl_st {N : Nat} {ad ad' : Nat → Nat} (he : ∀ q, q < N → ad' q = ad q) {st : List Value} (h : ∀ v ∈ st, zz_rl N v) : st.map (zz_V ad') = st.map (zz_V ad) := List.map_congr_left (fun v hv => zz_rl_V he (h v hv))
variable {M : zz_M} {sc : Option (Nat × (Nat → Int32))} {d rc rz : Nat} {Q Q2 : zz_Q} {pc : Nat} {lv : List (Nat × Value)} {st : List Value} {σ σ2 : zz_St}
/-- what holds of the cells below N at one store and its addresses holds at the other -/
def zz_mv (N : Nat) (σ σ2 : zz_St) : Prop := ∀ (ad ad' : Nat → Nat) (G : va_G) (cA : Nat → ClassId) (H : Heap) (k : Nat), (∀ q, q < N → ad' q = ad q) → k < N → va_at G vwCl (ad k, zz_E1 ad cA (σ k)) H → va_at G vwCl (ad' k, zz_E1 ad' cA (σ2 k)) H
theorem zz_W_len {ad : Nat → Nat} {cA : Nat → ClassId} {σ : zz_St} : (zz_W ad cA σ).length = 58 + zz_k σ := by simp [zz_W]
theorem zz_newg {j t : Nat} (hj : j < 2) (hk : zz_k σ = j) (hk2 : zz_k σ2 = j + 1) {atype : ArrayType} {n : Int32} {N' : Nat} {a0 : vp_A} {ty : FieldType} (hw : Cond.arrayClass (newarray.typeOf atype) ∈ zz_g) (hty : newarray.typeOf atype = ty) (ht : ∀ cA : Nat → ClassId, (zz_tys cA)[t]? = some (cA t, ty)) (hra : ∀ (U : State) (x : ClassId), va_RA U x ty → U.vm.findClass ("[" ++ ty.toString) = some x) (ha : ∀ cB : ClassId, vp_cell cB a0 = arrV cB N' (fun _ => defaultValue ty)) (hn : ¬ n < 0) (hN : n.toNatClampNeg = N') (hby : N' * componentBytes ty ≤ 536870912) (hcc : 1 ≤ rc) (hss : N' ≤ rz)
    (hE : ∀ (ad : Nat → Nat) (cA : Nat → ClassId), zz_E1 ad cA (σ2 (58 + j)) = .inl (cA t, a0)) (hat : zz_mv (58 + j) σ σ2) (hlv : ∀ q ∈ lv, zz_rl (58 + j) q.2) (hst : ∀ v ∈ st, zz_rl (58 + j) v)
    (hQ : ∀ o τ, Q2 o τ → ∃ (x : Int32) (τ' : zz_St), o = .inl (some (.int x)) ∧ zz_k τ = j + 1 ∧ zz_k τ' = j ∧ Q o τ' ∧ zz_mv (58 + j) τ τ')
    (h : decode M.2.1 pc = .ok (.newarray atype, 2)) (K : zz_E M sc d (rc - 1) (rz - N') Q2 (pc + 2) lv (.ref (58 + j) :: st) σ2) : zz_E M sc d rc rz Q pc lv (.int n :: st) σ := by
  intro p l e R s m args below meth c ad G cA A mc ms S H locs cells slots ls hc hz hl hS hP
  obtain ⟨s1, s2, s3, s4, s5, s6, s7, s8, s9, s10, s11, s12, s13, s14, s15, s16, s17, s18, s19⟩ := S
  refine va_newa s1 s2 (s7 _ hw) hty s9 hP (zz_D s10 s11) hS s12 ha hn hN hby (by omega) (by omega) h (fun q cB H1 hK1 hP1 hD1 hS1 => ?_)
  have e : cB = cA t := Option.some.inj ((hra s cB (hK1.2 5 (cB, ty) rfl).2).symm.trans (hra s (cA t) (s9.2 t _ (ht cA)).2))
  subst e
  obtain ⟨a', ha'⟩ : ∃ a' : Nat → Nat, a' = fun z => if z < 58 + j then ad z else if z = 58 + j then q else if z = 68 then ad 68 else H1.size := ⟨_, rfl⟩
  have hag : ∀ z, z < 58 + j → a' z = ad z := fun z hz => by rw [ha']; exact if_pos hz
  have hq0 : a' (58 + j) = q := by rw [ha']; show (if 58 + j < 58 + j then _ else _) = _; rw [if_neg (Nat.lt_irrefl _), if_pos rfl]
  have h680 : a' 68 = ad 68 := by rw [ha']; show (if 68 < 58 + j then _ else _) = _; rw [if_neg (by omega), if_neg (by omega), if_pos rfl]
  have hbig : ∀ z, 58 + j < z → z < 60 → a' z = H1.size := fun z h1 h2 => by rw [ha']; show (if z < 58 + j then _ else _) = _; rw [if_neg (by omega), if_neg (by omega), if_neg (by omega)]
  have hlen : (zz_W ad cA σ).length = 58 + j := by rw [zz_W_len, hk]
  -- the new list, by its places
  have hold : ∀ z, z < 58 + j → (zz_W ad cA σ ++ [(q, .inl (cA t, a0))])[z]? = some (ad z, zz_E1 ad cA (σ z)) := fun z hz => by
    rw [List.getElem?_append_left (by rw [hlen]; exact hz)]
    exact zz_W_get (by rw [hk]; exact hz)
  have hnew : (zz_W ad cA σ ++ [(q, .inl (cA t, a0))])[58 + j]? = some (q, .inl (cA t, a0)) := by
    rw [List.getElem?_append_right (by rw [hlen]; exact Nat.le_refl _), hlen, Nat.sub_self]
    rfl
  have hP2 : va_P G vwCl (zz_W a' cA σ2) H1 := by
    intro z w hw2
    obtain ⟨z1, -⟩ := zz_W_at hw2
    rw [zz_W_get z1] at hw2
    cases hw2
    rw [hk2] at z1
    by_cases ez : z = 58 + j
    · subst ez
      rw [hE, hq0]
      exact hP1 (58 + j) _ hnew
    · exact hat ad a' G cA H1 z hag (by omega) (hP1 z _ (hold z (by omega)))
  have hlt : ∀ z, z ≤ 58 + j → a' z < H1.size := fun z hz => by
    by_cases ez : z = 58 + j
    · rw [ez, hq0]
      exact vx_lt hP1 hnew
    · rw [hag z (by omega)]
      exact vx_lt hP1 (hold z (by omega))
  have hinj : zz_inj a' := by
    intro x y hx hy exy
    by_cases x1 : x < 58 + j
    · by_cases y1 : y < 58 + j
      · rw [hag x x1, hag y y1] at exy
        exact s10 x y hx hy exy
      · by_cases y2 : y = 58 + j
        · subst y2
          rw [hag x x1, hq0] at exy
          exact hD1.1 x (58 + j) _ _ (hold x x1) hnew exy
        · have := hlt x (by omega)
          rw [exy, hbig y (by omega) hy] at this
          exact absurd this (Nat.lt_irrefl _)
    · by_cases x2 : x = 58 + j
      · subst x2
        by_cases y1 : y < 58 + j
        · rw [hag y y1, hq0] at exy
          exact (hD1.1 y (58 + j) _ _ (hold y y1) hnew exy.symm).symm
        · by_cases y2 : y = 58 + j
          · exact y2.symm
          · have := hlt (58 + j) (Nat.le_refl _)
            rw [exy, hbig y (by omega) hy] at this
            exact absurd this (Nat.lt_irrefl _)
      · by_cases y1 : y ≤ 58 + j
        · have := hlt y y1
          rw [← exy, hbig x (by omega) hx] at this
          exact absurd this (Nat.lt_irrefl _)
        · omega
  have hA2 : ∀ z, z < 60 → A (a' z) := fun z hz => by
    by_cases z1 : z < 58 + j
    · rw [hag z z1]
      exact s11 z hz
    · by_cases z2 : z = 58 + j
      · subst z2
        rw [hq0]
        exact hD1.2 (58 + j) _ hnew
      · rw [hbig z (by omega) hz]
        exact s12 _ hS1.1
  have hsc : zz_Sc sc a' A s := by
    unfold zz_Sc at s19 ⊢
    rw [h680]
    exact s19
  intro T hT X
  have hk9 := K p l e R s m args below meth c a' G cA A mc ms ⟨s1, s2, s3, s4, s5, s6, s7, s8, s9, hinj, hA2, s12, s13, s14, s15, s16, s17, s18, hsc⟩ H1 locs (cells + 1) (slots + N') ls (by omega) (by omega) (by rw [zz_rl_LV hag hlv]; exact hl) hS1 hP2
  rw [show (Value.ref (58 + j) :: st).map (zz_V a') = .ref q :: st.map (zz_V ad) by
    rw [List.map_cons, zz_rl_st hag hst]
    show Value.ref (a' (58 + j)) :: _ = _
    rw [hq0]] at hk9
  obtain ⟨t, a1, o, b1, b2, b3⟩ := hk9 T hT X
  refine ⟨t, a1, o, b1, b2, ?_⟩
  rcases b3 with ⟨⟨⟨v, τ, c1, c2, c3⟩, c4⟩, c5⟩ | ⟨q', c1, E, ce, L, ⟨⟨τ, c2, c3⟩, c4⟩, c5⟩
  · obtain ⟨x, τ', ho, k1, k2, hq, hmv⟩ := hQ _ _ c2
    cases ho
    refine Or.inl ⟨⟨⟨some (.int x), τ', c1, hq, ?_⟩, c4⟩, c5⟩
    intro z w hw2
    obtain ⟨z1, -⟩ := zz_W_at hw2
    rw [zz_W_get z1] at hw2
    cases hw2
    rw [k2] at z1
    exact hmv _ ad G cA t.heap z (fun q2 hq2 => (hag q2 hq2).symm) z1 (c3 z _ (zz_W_get (by rw [k1]; omega)))
  · obtain ⟨x, τ', ho, _⟩ := hQ _ _ c2
    cases ho
end ZYN
