section ZYG
variable {El : Nat → Int32} {Lo Hi : Nat → Nat → Int64} {BL BH : Nat → Int64} {Od : Nat → Nat → Int32} {Ls : Nat → Int32} {n : Nat} {R : Nat → Nat → Nat → Bool} {mk : Nat → Bool} {MB : Nat → Nat → Bool} {rho nu : Nat → Int32} {T : zz_St}
theorem dst_ex {R : Nat → Nat → Bool} {n i k m : Nat} (h1 : 1 ≤ m) (h : wkb R n i m k = true) : ∃ d, d ≤ m ∧ dst R n i k d := by
  obtain ⟨d, ⟨hd1, hd2⟩, hl⟩ := pk_least (fun d => 1 ≤ d ∧ wkb R n i d k = true) ⟨m, h1, h⟩
  have hle : ∀ e, 1 ≤ e → wkb R n i e k = true → d ≤ e := fun e he hw => Nat.le_of_not_lt (fun q => hl e q ⟨he, hw⟩)
  exact ⟨d, hle m h1 h, hd1, hd2, hle⟩
theorem dst_r {R : Nat → Nat → Bool} {n i k d : Nat} (h : dst R n i k d) : rch R n i k := ⟨d - 1, by rw [Nat.sub_add_cancel h.1]; exact h.2.1⟩
/-- the least number of steps by way of the successors below k -/
def lsI (R : Nat → Nat → Bool) (n a b k : Nat) (x : Int32) : Prop := (x = -1 ∧ ∀ j, j < k → R a j = true → ¬ rch R n j b) ∨ ∃ e, e ≤ n ∧ x = nI (e + 1) ∧ (∃ j, j < k ∧ R a j = true ∧ dst R n j b e) ∧ ∀ j d, j < k → R a j = true → dst R n j b d → e ≤ d
theorem lsI_0 (R : Nat → Nat → Bool) (n a b : Nat) : lsI R n a b 0 (-1) := Or.inl ⟨rfl, fun j h => absurd h (Nat.not_lt_zero j)⟩
theorem lsI_o {R : Nat → Nat → Bool} {n a b k : Nat} {x : Int32} (h : lsI R n a b k x) (hn : R a k = true → ¬ rch R n k b) : lsI R n a b (k + 1) x := by
  rcases h with ⟨h1, h2⟩ | ⟨e, h0, h1, ⟨j, j1, j2, j3⟩, h2⟩
  · refine Or.inl ⟨h1, fun j hj => ?_⟩
    by_cases q : j = k
    · rw [q]; exact hn
    · exact h2 j (by omega)
  · refine Or.inr ⟨e, h0, h1, ⟨j, by omega, j2, j3⟩, fun i d hi hr hd => ?_⟩
    by_cases q : i = k
    · subst q; exact absurd (dst_r hd) (hn hr)
    · exact h2 i d (by omega) hr hd
theorem lsI_k {R : Nat → Nat → Bool} {n a b k e d : Nat} (h : lsI R n a b k (nI (e + 1))) (hn : n ≤ 80) (he : e ≤ 80) (hd : dst R n k b d) (hle : e ≤ d) : lsI R n a b (k + 1) (nI (e + 1)) := by
  rcases h with ⟨h1, h2⟩ | ⟨e', h0, h1, ⟨j, j1, j2, j3⟩, h2⟩
  · exact absurd h1 (by
      intro q
      have := nI_pos (n := e + 1) (by omega)
      rw [q] at this
      exact this (by decide))
  · have q := (nI_eq (by omega) (by omega)).mp h1
    have q : e = e' := by omega
    subst q
    refine Or.inr ⟨e, h0, rfl, ⟨j, by omega, j2, j3⟩, fun i d' hi hr hd' => ?_⟩
    by_cases q : i = k
    · subst q
      rw [← dst_u hd hd']; exact hle
    · exact h2 i d' (by omega) hr hd'
theorem lsI_n {R : Nat → Nat → Bool} {n a b k d : Nat} {x : Int32} (h : lsI R n a b k x) (hr : R a k = true) (hd : dst R n k b d) (hdn : d ≤ n) (hlt : ∀ e, e ≤ n → x = nI (e + 1) → d ≤ e) : lsI R n a b (k + 1) (nI (d + 1)) := by
  refine Or.inr ⟨d, hdn, rfl, ⟨k, by omega, hr, hd⟩, fun i d' hi hri hd' => ?_⟩
  by_cases q : i = k
  · subst q
    rw [dst_u hd hd']
    exact Nat.le_refl _
  · rcases h with ⟨h1, h2⟩ | ⟨e, h0, h1, _, h2⟩
    · exact absurd (dst_r hd') (h2 i (by omega) hri)
    · exact Nat.le_trans (hlt e h0 h1) (h2 i d' (by omega) hri hd')
theorem lsI_e {R : Nat → Nat → Bool} {n a b : Nat} {x v : Int32} (ha : a < n) (hR : R a b = false) (h : lsI R n a b n x) (hv : stS R n a b v) : v = x := by
  have dec : ∀ d, dst R n a b d → ∃ j m, j < n ∧ R a j = true ∧ d = m + 1 ∧ 1 ≤ m ∧ wkb R n j m b = true := fun d hd => by
    have h2 := hd.2.1
    rw [← Nat.sub_add_cancel hd.1] at h2
    rcases wkb_l h2 with ⟨_, q⟩ | ⟨j, j1, j2, j3⟩
    · rw [hR] at q; cases q
    · refine ⟨j, d - 1, j1, j2, (Nat.sub_add_cancel hd.1).symm, ?_, j3⟩
      rcases Nat.eq_zero_or_pos (d - 1) with q | q
      · rw [q] at j3
        rw [of_decide_eq_true j3, j2] at hR
        cases hR
      · exact q
  rcases h with ⟨rfl, h2⟩ | ⟨e, h0, rfl, ⟨j, j1, j2, j3⟩, h2⟩
  · rcases hv with ⟨rfl, _⟩ | ⟨d, _, _, hd⟩
    · rfl
    · obtain ⟨j, m, j1, j2, _, j4, j5⟩ := dec d hd
      obtain ⟨d', _, hd'⟩ := dst_ex j4 j5
      exact absurd (dst_r hd') (h2 j j1 j2)
  · have hw : wkb R n a (e + 1) b = true := by
      rw [Nat.add_comm]
      exact wkb_add (by rw [wkb_1 ha]; exact j2) j3.2.1
    rcases hv with ⟨_, hq⟩ | ⟨d, _, rfl, hd⟩
    · exact absurd ⟨e, hw⟩ hq
    · obtain ⟨j', m, k1, k2, k3, k4, k5⟩ := dec d hd
      obtain ⟨d', l1, hd'⟩ := dst_ex k4 k5
      have q1 := h2 j' d' k1 k2 hd'
      have q2 := hd.2.2 (e + 1) (by omega) hw
      rw [show d = e + 1 by omega]
theorem stS_1 {R : Nat → Nat → Bool} {n a b : Nat} {v : Int32} (ha : a < n) (hR : R a b = true) (hv : stS R n a b v) : v = 1 := by
  rcases hv with ⟨_, hq⟩ | ⟨d, _, rfl, hd⟩
  · exact absurd (rch_1 ha hR) hq
  · have := hd.2.2 1 (Nat.le_refl 1) (by rw [wkb_1 ha]; exact hR)
    have := hd.1
    rw [show d = 1 by omega]
    rfl
theorem stS_lt {R : Nat → Nat → Bool} {n i k : Nat} {v : Int32} (hn : n ≤ 80) (hv : stS R n i k v) (h : ¬ v ≤ 0) : ∃ d, d ≤ n ∧ v = nI d ∧ dst R n i k d := by
  rcases hv with ⟨rfl, _⟩ | h2
  · exact absurd (by decide) h
  · exact h2
theorem stS_le {R : Nat → Nat → Bool} {n i k : Nat} {v : Int32} (hn : n ≤ 80) (hv : stS R n i k v) (h : v ≤ 0) : ¬ rch R n i k := by
  rcases hv with ⟨_, h2⟩ | ⟨d, h1, rfl, h2⟩
  · exact h2
  · exact absurd h (nI_nle h2.1 (by omega))
theorem lsI_ge {R : Nat → Nat → Bool} {n a b k : Nat} {x : Int32} (hn : n ≤ 80) (h : lsI R n a b k x) (hx : ¬ x < 0) : ∃ e, e ≤ n ∧ x = nI (e + 1) := by
  rcases h with ⟨rfl, _⟩ | ⟨e, h0, h1, _⟩
  · exact absurd (by decide) hx
  · exact ⟨e, h0, h1⟩
theorem lsI_lt {R : Nat → Nat → Bool} {n a b k : Nat} {x : Int32} (hn : n ≤ 80) (h : lsI R n a b k x) (hx : x < 0) : ∀ e, e ≤ n → x ≠ nI (e + 1) := fun e he q => by
  rw [q] at hx
  exact nI_pos (by omega) hx
set_option maxHeartbeats 1000000 in
set_option maxRecDepth 20000 in
theorem st_k {r a b : Nat} (hr : r < 4) (ha : a < n) (hb : b < n) (hg : gr n (MB 54) (R r))  {v0 : Int32} (hR : R r a b = false) (hv0 : stS (R r) n a b v0) : ∀ (m i : Nat), i + m = n → ∀ (x : Int32) (El : Nat → Int32) (Lo Hi : Nat → Nat → Int64) (BL BH : Nat → Int64) (Od : Nat → Nat → Int32) (Ls : Nat → Int32), cI n El Lo Hi BL BH R mk → lsI (R r) n a b i x → zz_E mL_isStep none 8 m (6 * m) (xQ n R mk (pl MB rho nu T) (.inl (some (.int 1)))) 39 [(8, .int (nI i)), (7, .int x), (6, .int v0), (0, .ref 52), (1, .int (nI r)), (2, .int (nI a)), (3, .int (nI b)), (4, .int (nI n)), (5, .ref 54)] [] (px El Lo Hi BL BH Od Ls (nI n) (pl MB rho nu T)) := by
  intro m
  induction m with
  | zero =>
    intro i hi x El Lo Hi BL BH Od Ls hI hL
    have hn := cI_n hI
    have hk : n = i := by omega
    subst hk
    have e1 := lsI_e ha hR hL hv0
    subst e1
    refine zz_iload dL_isStep_39 rfl ?_
    refine zz_iload dL_isStep_41 rfl ?_
    refine zz_icmp_ge (tgt := 104) dL_isStep_43 (by decide) (fun _ => ?_) (fun h => absurd (nI_le (Nat.le_refl _) (by omega)) h)
    refine zz_iload dL_isStep_104 rfl ?_
    refine zz_iload dL_isStep_106 rfl ?_
    refine zz_icmp_ne (tgt := 115) dL_isStep_108 (by decide) (fun h => absurd rfl h) (fun _ => ?_)
    refine zz_iconst (v := 1) dL_isStep_111 (by decide) ?_
    refine zz_goto (tgt := 116) dL_isStep_112 (by decide) ?_
    refine zz_zret dL_isStep_116 rfl (by first | rfl | exact zB_nar _) ?_
    exact xQ_i rfl hI
  | succ m ih =>
    intro i hi x El Lo Hi BL BH Od Ls hI hL
    have hn := cI_n hI
    have hk : i < n := by omega
    refine zz_iload dL_isStep_39 rfl ?_
    refine zz_iload dL_isStep_41 rfl ?_
    refine zz_icmp_ge (tgt := 104) dL_isStep_43 (by decide) (fun h => absurd h (nI_ge (by omega) (by omega))) (fun _ => ?_)
    refine zz_aload dL_isStep_46 rfl ?_
    refine zz_bipush (v := 80) dL_isStep_48 (by decide) ?_
    refine zz_iload_n dL_isStep_50 rfl ?_
    refine zz_imul dL_isStep_51 ?_
    refine zz_iload dL_isStep_52 rfl ?_
    refine zz_iadd dL_isStep_54 ?_
    refine zz_tope (y := nI (80 * a + i)) (by simp only [i80, i81, pk_mul, nI_add, nI_1]) ?_
    refine zl_qb dL_isStep_55 (by omega) (by omega) ?_
    rw [hg a i ha hk]
    refine zz_if_eq (tgt := 70) dL_isStep_56 (by decide) (fun h56 => ?_) (fun h56 => ?_)
    · refine zz_iconst (v := (-1)) dL_isStep_70 (by decide) ?_
      refine zz_istore dL_isStep_71 (by decide) ?_
      refine zz_iload dL_isStep_73 rfl ?_
      refine zz_if_le (tgt := 98) dL_isStep_75 (by decide) (fun _ => ?_) (fun h => absurd (by decide) h)
      refine zz_iinc (v := nI (i + 1)) dL_isStep_98 rfl (nI_1 i) (by decide) ?_
      refine zz_goto (tgt := 39) dL_isStep_101 (by decide) ?_
      refine zz_less (rc1 := m) (rz1 := 6 * m) (by omega) (by omega) ?_
      refine zz_lvl (lv2 := [(8, .int (nI (i + 1))), (7, .int x), (6, .int v0), (0, .ref 52), (1, .int (nI r)), (2, .int (nI a)), (3, .int (nI b)), (4, .int (nI n)), (5, .ref 54)]) ⟨rfl, rfl, rfl, rfl, rfl, rfl, rfl, rfl, rfl, trivial⟩ ?_
      exact ih (i + 1) (by omega) _ _ _ _ _ _ _ _ hI (lsI_o hL (fun q => by rw [zB_0.mp h56] at q; cases q))
    · refine zz_aload_n dL_isStep_59 rfl ?_
      refine zz_iload_n dL_isStep_60 rfl ?_
      refine zz_iload dL_isStep_61 rfl ?_
      refine zz_iload_n dL_isStep_63 rfl ?_
      refine zz_callV (ci := 4) (x_steps_v hr hk hb hI) dL_isStep_64 zw_m_L_114 wYX4_steps wDX4_steps rfl (by omega) px_x rfl (Nat.le_of_ble_eq_true rfl) (by decide) (by omega) (by omega) rfl ?_ (fun E τ hE => by obtain ⟨_, _, hE, _⟩ := hE; cases hE)
      rintro v1 τ1 ⟨v1x, hst1, hv1, El1, Lo1, Hi1, BL1, BH1, Od1, Ls1, hI1, rfl⟩
      cases hv1
      refine zz_goto (tgt := 71) dL_isStep_67 (by decide) ?_
      refine zz_istore dL_isStep_71 (by decide) ?_
      refine zz_iload dL_isStep_73 rfl ?_
      refine zz_if_le (tgt := 98) dL_isStep_75 (by decide) (fun h75 => ?_) (fun h75 => ?_)
      · refine zz_iinc (v := nI (i + 1)) dL_isStep_98 rfl (nI_1 i) (by decide) ?_
        refine zz_goto (tgt := 39) dL_isStep_101 (by decide) ?_
        refine zz_less (rc1 := m) (rz1 := 6 * m) (by omega) (by omega) ?_
        refine zz_lvl (lv2 := [(8, .int (nI (i + 1))), (7, .int x), (6, .int v0), (0, .ref 52), (1, .int (nI r)), (2, .int (nI a)), (3, .int (nI b)), (4, .int (nI n)), (5, .ref 54)]) ⟨rfl, rfl, rfl, rfl, rfl, rfl, rfl, rfl, rfl, trivial⟩ ?_
        exact ih (i + 1) (by omega) _ _ _ _ _ _ _ _ hI1 (lsI_o hL (fun _ => stS_le hn hst1 h75))
      · obtain ⟨d1, hd1, rfl, hds⟩ := stS_lt hn hst1 h75
        refine zz_iload dL_isStep_78 rfl ?_
        refine zz_if_lt (tgt := 92) dL_isStep_80 (by decide) (fun h80 => ?_) (fun h80 => ?_)
        · refine zz_iload dL_isStep_92 rfl ?_
          refine zz_iconst (v := 1) dL_isStep_94 (by decide) ?_
          refine zz_iadd dL_isStep_95 ?_
          refine zz_tope (y := nI (d1 + 1)) (nI_1 d1) ?_
          refine zz_istore dL_isStep_96 (by decide) ?_
          refine zz_iinc (v := nI (i + 1)) dL_isStep_98 rfl (nI_1 i) (by decide) ?_
          refine zz_goto (tgt := 39) dL_isStep_101 (by decide) ?_
          refine zz_less (rc1 := m) (rz1 := 6 * m) (by omega) (by omega) ?_
          refine zz_lvl (lv2 := [(8, .int (nI (i + 1))), (7, .int (nI (d1 + 1))), (6, .int v0), (0, .ref 52), (1, .int (nI r)), (2, .int (nI a)), (3, .int (nI b)), (4, .int (nI n)), (5, .ref 54)]) ⟨rfl, rfl, rfl, rfl, rfl, rfl, rfl, rfl, rfl, trivial⟩ ?_
          exact ih (i + 1) (by omega) _ _ _ _ _ _ _ _ hI1 (lsI_n hL (zB_n.mp h56) hds hd1 (fun e he q => absurd q (lsI_lt hn hL h80 e he)))
        · obtain ⟨e1, he1, rfl⟩ := lsI_ge hn hL h80
          refine zz_iload dL_isStep_83 rfl ?_
          refine zz_iconst (v := 1) dL_isStep_85 (by decide) ?_
          refine zz_iadd dL_isStep_86 ?_
          refine zz_tope (y := nI (d1 + 1)) (nI_1 d1) ?_
          refine zz_iload dL_isStep_87 rfl ?_
          refine zz_icmp_ge (tgt := 98) dL_isStep_89 (by decide) (fun h89 => ?_) (fun h89 => ?_)
          · refine zz_iinc (v := nI (i + 1)) dL_isStep_98 rfl (nI_1 i) (by decide) ?_
            refine zz_goto (tgt := 39) dL_isStep_101 (by decide) ?_
            refine zz_less (rc1 := m) (rz1 := 6 * m) (by omega) (by omega) ?_
            refine zz_lvl (lv2 := [(8, .int (nI (i + 1))), (7, .int (nI (e1 + 1))), (6, .int v0), (0, .ref 52), (1, .int (nI r)), (2, .int (nI a)), (3, .int (nI b)), (4, .int (nI n)), (5, .ref 54)]) ⟨rfl, rfl, rfl, rfl, rfl, rfl, rfl, rfl, rfl, trivial⟩ ?_
            exact ih (i + 1) (by omega) _ _ _ _ _ _ _ _ hI1 (lsI_k hL hn (by omega) hds (by have := (nI_leI (by omega) (by omega)).mp h89; omega))
          · refine zz_iload dL_isStep_92 rfl ?_
            refine zz_iconst (v := 1) dL_isStep_94 (by decide) ?_
            refine zz_iadd dL_isStep_95 ?_
            refine zz_tope (y := nI (d1 + 1)) (nI_1 d1) ?_
            refine zz_istore dL_isStep_96 (by decide) ?_
            refine zz_iinc (v := nI (i + 1)) dL_isStep_98 rfl (nI_1 i) (by decide) ?_
            refine zz_goto (tgt := 39) dL_isStep_101 (by decide) ?_
            refine zz_less (rc1 := m) (rz1 := 6 * m) (by omega) (by omega) ?_
            refine zz_lvl (lv2 := [(8, .int (nI (i + 1))), (7, .int (nI (d1 + 1))), (6, .int v0), (0, .ref 52), (1, .int (nI r)), (2, .int (nI a)), (3, .int (nI b)), (4, .int (nI n)), (5, .ref 54)]) ⟨rfl, rfl, rfl, rfl, rfl, rfl, rfl, rfl, rfl, trivial⟩ ?_
            exact ih (i + 1) (by omega) _ _ _ _ _ _ _ _ hI1 (lsI_n hL (zB_n.mp h56) hds hd1 (fun e he q => by have q1 := (nI_eq (by omega) (by omega)).mp q; have q2 : ¬ e1 + 1 ≤ d1 + 1 := fun z => h89 (nI_le z (by omega)); omega))
set_option maxHeartbeats 1000000 in
set_option maxRecDepth 20000 in
theorem c_isStep {r a b : Nat} (hr : r < 4) (ha : a < n) (hb : b < n) (hg : gr n (MB 54) (R r)) (hI : cI n El Lo Hi BL BH R mk) : zz_C mL_isStep 8 81 486 [.ref 52, .int (nI r), .int (nI a), .int (nI b), .int (nI n), .ref 54] (px El Lo Hi BL BH Od Ls (nI n) (pl MB rho nu T)) (xQ n R mk (pl MB rho nu T) (.inl (some (.int 1)))) := by
  have hn := cI_n hI
  · refine zz_start wPL_isStep rfl rfl (Nat.le_of_ble_eq_true rfl) ?_
    refine zz_aload_n dL_isStep_0 rfl ?_
    refine zz_iload_n dL_isStep_1 rfl ?_
    refine zz_iload_n dL_isStep_2 rfl ?_
    refine zz_iload_n dL_isStep_3 rfl ?_
    refine zz_callV (ci := 4) (x_steps_v hr ha hb hI) dL_isStep_4 zw_m_L_114 wYX4_steps wDX4_steps rfl (by omega) px_x rfl (Nat.le_of_ble_eq_true rfl) (by decide) (by omega) (by omega) rfl ?_ (fun E τ hE => by obtain ⟨_, _, hE, _⟩ := hE; cases hE)
    rintro v1 τ1 ⟨v0, hst0, hv1, El1, Lo1, Hi1, BL1, BH1, Od1, Ls1, hI1, rfl⟩
    cases hv1
    refine zz_istore dL_isStep_7 (by decide) ?_
    refine zz_aload dL_isStep_9 rfl ?_
    refine zz_bipush (v := 80) dL_isStep_11 (by decide) ?_
    refine zz_iload_n dL_isStep_13 rfl ?_
    refine zz_imul dL_isStep_14 ?_
    refine zz_iload_n dL_isStep_15 rfl ?_
    refine zz_iadd dL_isStep_16 ?_
    refine zz_tope (y := nI (80 * a + b)) (by simp only [i80, i81, pk_mul, nI_add, nI_1]) ?_
    refine zl_qb dL_isStep_17 (by omega) (by omega) ?_
    rw [hg a b ha hb]
    refine zz_if_eq (tgt := 33) dL_isStep_18 (by decide) (fun h18 => ?_) (fun h18 => ?_)
    · refine zz_iconst (v := (-1)) dL_isStep_33 (by decide) ?_
      refine zz_istore dL_isStep_34 (by decide) ?_
      refine zz_iconst (v := 0) dL_isStep_36 (by decide) ?_
      refine zz_istore dL_isStep_37 (by decide) ?_
      refine zz_less (rc1 := n) (rz1 := 6 * n) (by omega) (by omega) ?_
      refine zz_lvl (lv2 := [(8, .int (nI 0)), (7, .int (-1)), (6, .int v0), (0, .ref 52), (1, .int (nI r)), (2, .int (nI a)), (3, .int (nI b)), (4, .int (nI n)), (5, .ref 54)]) ⟨rfl, rfl, rfl, rfl, rfl, rfl, rfl, rfl, rfl, trivial⟩ ?_
      exact st_k hr ha hb hg (zB_0.mp h18) hst0 n 0 (by omega) _ _ _ _ _ _ _ _ hI1 (lsI_0 _ _ _ _)
    · have e1 := stS_1 ha (zB_n.mp h18) hst0
      subst e1
      refine zz_iload dL_isStep_21 rfl ?_
      refine zz_iconst (v := 1) dL_isStep_23 (by decide) ?_
      refine zz_icmp_ne (tgt := 31) dL_isStep_24 (by decide) (fun h => absurd rfl h) (fun _ => ?_)
      refine zz_iconst (v := 1) dL_isStep_27 (by decide) ?_
      refine zz_goto (tgt := 32) dL_isStep_28 (by decide) ?_
      refine zz_zret dL_isStep_32 rfl (by first | rfl | exact zB_nar _) ?_
      exact xQ_i rfl hI1
end ZYG
