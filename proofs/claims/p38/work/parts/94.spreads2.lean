section ZYS2
variable {El : Nat → Int32} {Lo Hi : Nat → Nat → Int64} {BL BH : Nat → Int64} {Od : Nat → Nat → Int32} {Ls : Nat → Int32} {n : Nat} {R : Nat → Nat → Nat → Bool} {mk : Nat → Bool} {MB : Nat → Nat → Bool} {rho nu : Nat → Int32} {T : zz_St}
theorem dm_v0 {k : Nat} (hk : k < n) (h0 : mk k = true) (h9 : cnt mk k = 0) (hI : cI n El Lo Hi BL BH R mk) : zz_C mL_done 8 1 6 [.ref 52, .int 7, .int (nI 0), .int 0, .int 0] (px El Lo Hi BL BH Od Ls (nI n) T) (fun o τ => o = .inl (some (.int (nI k))) ∧ τ = px El Lo Hi BL BH Od Ls (nI n) T) := by
  have h := dm_v (Od := Od) (Ls := Ls) (T := T) hk h0 hI
  rw [h9] at h
  exact h
set_option maxHeartbeats 1000000 in
set_option maxRecDepth 20000 in
theorem sp_147 {r b : Nat} (hr : r < 4) (hb : b < n) (hg : gr n (MB 54) (R r)) (hm : ∀ k, k < n → mk k = R r b k) (hI : cI n El Lo Hi BL BH R mk) (rc rz : Nat) (K : zz_E mL_spreads none 9 rc rz (trQ n T) 206 [(9, .int (nI (cnt mk n))), (8, .int 1), (7, .int (nI b)), (0, .ref 52), (1, .ref 57), (2, .int (nI r)), (3, .int (nI n)), (4, .ref 54), (5, .ref 55)] [] (px El Lo Hi BL BH Od Ls (nI n) (pl MB rho nu T))) : ∀ (m i : Nat), i + m = n → zz_E mL_spreads none 9 (m + rc) (6 * m + rz) (trQ n T) 147 [(11, .int (nI (cnt mk i))), (10, .int (nI i)), (9, .int (nI (cnt mk n))), (8, .int 1), (7, .int (nI b)), (0, .ref 52), (1, .ref 57), (2, .int (nI r)), (3, .int (nI n)), (4, .ref 54), (5, .ref 55)] [] (px El Lo Hi BL BH Od Ls (nI n) (pl MB rho nu T)) := by
  intro m
  induction m with
  | zero =>
    intro i hi
    have hn := cI_n hI
    have hk : n = i := by omega
    subst hk
    refine zz_iload dL_spreads_147 rfl ?_
    refine zz_iload_n dL_spreads_149 rfl ?_
    refine zz_icmp_ge (tgt := 206) dL_spreads_150 (by decide) (fun _ => ?_) (fun h => absurd (nI_le (Nat.le_refl _) (by omega)) h)
    refine zz_less (rc1 := rc) (rz1 := rz) (by omega) (by omega) ?_
    refine zz_lvl (lv2 := [(9, .int (nI (cnt mk n))), (8, .int 1), (7, .int (nI b)), (0, .ref 52), (1, .ref 57), (2, .int (nI r)), (3, .int (nI n)), (4, .ref 54), (5, .ref 55)]) ⟨rfl, rfl, rfl, rfl, rfl, rfl, rfl, rfl, rfl, trivial⟩ ?_
    exact K
  | succ m ih =>
    intro i hi
    have hn := cI_n hI
    have hk : i < n := by omega
    refine zz_iload dL_spreads_147 rfl ?_
    refine zz_iload_n dL_spreads_149 rfl ?_
    refine zz_icmp_ge (tgt := 206) dL_spreads_150 (by decide) (fun h => absurd h (nI_ge (by omega) (by omega))) (fun _ => ?_)
    refine zz_iload dL_spreads_153 rfl ?_
    refine zz_if_eq (tgt := 206) dL_spreads_155 (by decide) (fun h => absurd h (by decide)) (fun _ => ?_)
    refine zz_aload dL_spreads_158 rfl ?_
    refine zz_bipush (v := 80) dL_spreads_160 (by decide) ?_
    refine zz_iload dL_spreads_162 rfl ?_
    refine zz_imul dL_spreads_164 ?_
    refine zz_iload dL_spreads_165 rfl ?_
    refine zz_iadd dL_spreads_167 ?_
    refine zz_tope (y := nI (80 * b + i)) (by simp only [i80, i81, pk_mul, nI_add, nI_1]) ?_
    refine zl_qb dL_spreads_168 (by omega) (by omega) ?_
    rw [hg b i hb hk, ← hm i hk]
    refine zz_if_ne (tgt := 175) dL_spreads_169 (by decide) (fun h169 => ?_) (fun h169 => ?_)
    · refine zz_aload_n dL_spreads_175 rfl ?_
      refine zz_bipush (v := 7) dL_spreads_176 (by decide) ?_
      refine zz_iload dL_spreads_178 rfl ?_
      refine zz_iconst (v := 0) dL_spreads_180 (by decide) ?_
      refine zz_iconst (v := 0) dL_spreads_181 (by decide) ?_
      refine zz_callSH rfl (dm_v hk (zB_n.mp h169) hI) dL_spreads_182 zw_m_L_72 wYL_done wDL_done rfl (Nat.le_of_ble_eq_true rfl) (by decide) (by omega) (by omega) rfl ?_ (fun E τ hE => by cases hE.1)
      rintro v1 τ1 ⟨hv1, rfl⟩
      cases hv1
      refine zz_iload dL_spreads_185 rfl ?_
      refine zz_icmp_ne (tgt := 194) dL_spreads_187 (by decide) (fun h => absurd rfl h) (fun _ => ?_)
      refine zz_iconst (v := 1) dL_spreads_190 (by decide) ?_
      refine zz_goto (tgt := 195) dL_spreads_191 (by decide) ?_
      refine zz_istore dL_spreads_195 (by decide) ?_
      refine zz_iinc (v := nI (cnt mk (i + 1))) dL_spreads_197 rfl ((by rw [cnt_st (zB_n.mp h169)]; exact nI_1 _)) (by decide) ?_
      refine zz_iinc (v := nI (i + 1)) dL_spreads_200 rfl (nI_1 i) (by decide) ?_
      refine zz_goto (tgt := 147) dL_spreads_203 (by decide) ?_
      refine zz_less (rc1 := m + rc) (rz1 := 6 * m + rz) (by omega) (by omega) ?_
      refine zz_lvl (lv2 := [(11, .int (nI (cnt mk (i + 1)))), (10, .int (nI (i + 1))), (9, .int (nI (cnt mk n))), (8, .int 1), (7, .int (nI b)), (0, .ref 52), (1, .ref 57), (2, .int (nI r)), (3, .int (nI n)), (4, .ref 54), (5, .ref 55)]) ⟨rfl, rfl, rfl, rfl, rfl, rfl, rfl, rfl, rfl, rfl, rfl, trivial⟩ ?_
      exact ih (i + 1) (by omega)
    · refine zz_goto (tgt := 200) dL_spreads_172 (by decide) ?_
      refine zz_iinc (v := nI (i + 1)) dL_spreads_200 rfl (nI_1 i) (by decide) ?_
      refine zz_goto (tgt := 147) dL_spreads_203 (by decide) ?_
      refine zz_less (rc1 := m + rc) (rz1 := 6 * m + rz) (by omega) (by omega) ?_
      rw [show cnt mk i = cnt mk (i + 1) from (cnt_sf (zB_0.mp h169)).symm]
      refine zz_lvl (lv2 := [(11, .int (nI (cnt mk (i + 1)))), (10, .int (nI (i + 1))), (9, .int (nI (cnt mk n))), (8, .int 1), (7, .int (nI b)), (0, .ref 52), (1, .ref 57), (2, .int (nI r)), (3, .int (nI n)), (4, .ref 54), (5, .ref 55)]) ⟨rfl, rfl, rfl, rfl, rfl, rfl, rfl, rfl, rfl, rfl, rfl, trivial⟩ ?_
      exact ih (i + 1) (by omega)
set_option maxHeartbeats 1000000 in
set_option maxRecDepth 20000 in
theorem sp_206 {r b : Nat} (hr : r < 4) (hb : b < n) (hg : gr n (MB 54) (R r)) (hm : ∀ k, k < n → mk k = R r b k) (hg5 : gr n (MB 55) (rchB (R r) n)) (hI : cI n El Lo Hi BL BH R mk) : zz_E mL_spreads none 9 84 504 (trQ n T) 206 [(9, .int (nI (cnt mk n))), (8, .int 1), (7, .int (nI b)), (0, .ref 52), (1, .ref 57), (2, .int (nI r)), (3, .int (nI n)), (4, .ref 54), (5, .ref 55)] [] (px El Lo Hi BL BH Od Ls (nI n) (pl MB rho nu T)) := by
  have hn := cI_n hI
  have hsp : spI n (R r) b mk := ⟨fun k hk q => (hm k hk).trans q, fun k hk q => (rchB_t hk).mpr (rch_1 hb ((hm k hk).symm.trans q))⟩
  refine zz_iload dL_spreads_206 rfl ?_
  refine zz_istore dL_spreads_208 (by decide) ?_
  refine zz_aload_n dL_spreads_210 rfl ?_
  refine zz_iload_n dL_spreads_211 rfl ?_
  refine zz_iconst (v := 1) dL_spreads_212 (by decide) ?_
  refine zz_callV (ci := 4) (x_spread_v (r := r) hr true hI) dL_spreads_213 zw_m_L_187 wYX4_spread wDX4_spread rfl (by omega) px_x rfl (Nat.le_of_ble_eq_true rfl) (by decide) (by omega) (by omega) rfl ?_ (fun E τ hE => by cases hE.1)
  rintro v1 τ1 ⟨hv1, El1, Lo1, Hi1, BL1, BH1, Od1, Ls1, hI1, rfl⟩
  cases hv1
  have e1 : ∀ k, k < n → ((true && mk k) || anb (fun i => mk i && R r i k) n) = spS n (R r) mk k := fun k hk => by
    show ((true && mk k) || anb (fun i => mk i && R r i k) n) = (mk k || anb (fun i => mk i && R r i k) n)
    rw [Bool.true_and]
  rw [cnt_c e1]
  refine zz_istore dL_spreads_216 (by decide) ?_
  refine zz_less (rc1 := (n + 1) + 2) (rz1 := 6 * (n + 1) + 12) (by omega) (by omega) ?_
  refine zz_lvl (lv2 := [(11, .int (nI (cnt (spS n (R r) mk) n))), (10, .int (nI (cnt mk n))), (8, .int 1), (7, .int (nI b)), (0, .ref 52), (1, .ref 57), (2, .int (nI r)), (3, .int (nI n)), (4, .ref 54), (5, .ref 55)]) ⟨rfl, rfl, rfl, rfl, rfl, rfl, rfl, rfl, rfl, rfl, trivial⟩ ?_
  exact sp_218 hr hb hg5 (n + 1) mk (by omega) hsp _ _ _ _ _ _ _ _ hI1 e1
set_option maxHeartbeats 1000000 in
set_option maxRecDepth 20000 in
theorem c_spreads {r : Nat} (hr : r < 4) (hI : cI n El Lo Hi BL BH R mk) : zz_C mL_spreads 9 400 2400 [.ref 52, .ref 57, .int (nI r), .int (nI n), .ref 54, .ref 55] (px El Lo Hi BL BH Od Ls (nI n) (pl MB rho nu T)) (trQ n T) := by
  have hn := cI_n hI
  have h1 := cI_1 hI
  have hpn := pn_6400 hn (R r)
  unfold pn at hpn
  refine zz_start wPL_spreads rfl rfl (Nat.le_of_ble_eq_true rfl) ?_
  refine zz_aload_n dL_spreads_0 rfl ?_
  refine zz_iload_n dL_spreads_1 rfl ?_
  refine zz_iload_n dL_spreads_2 rfl ?_
  refine zz_aload dL_spreads_3 rfl ?_
  refine zz_callS (c_sees (r := r) (q := 54) hr (by omega) hI) dL_spreads_5 zw_m_L_87 wYL_sees wDL_sees rfl (Nat.le_of_ble_eq_true rfl) (by decide) (by omega) (by omega) rfl ?_ (fun E τ hE => by obtain ⟨_, _, _, hE, _⟩ := hE; cases hE)
  rintro v1 τ1 ⟨MB1, hg1, hp1, hv1, El1, Lo1, Hi1, BL1, BH1, Od1, Ls1, hI1, rfl⟩
  cases hv1
  refine zz_istore dL_spreads_8 (by decide) ?_
  refine zz_aload dL_spreads_10 rfl ?_
  refine zz_iload_n dL_spreads_12 rfl ?_
  refine zz_aload dL_spreads_13 rfl ?_
  refine zz_callS (c_closes (w := 54) (q := 55) (by omega) (by omega) (by decide) hn hg1) dL_spreads_15 zw_m_L_91 wYL_closes wDL_closes rfl (Nat.le_of_ble_eq_true rfl) (by decide) (by omega) (by omega) rfl ?_ (fun E τ hE => by obtain ⟨_, _, _, hE, _⟩ := hE; cases hE)
  rintro v2 τ2 ⟨MB2, hg2, hp2, hv2, rfl⟩
  cases hv2
  have hg54 : gr n (MB2 54) (R r) := by rw [hp2 54 (by omega)]; exact hg1
  refine zz_aload_n dL_spreads_18 rfl ?_
  refine zz_callS (c_next) dL_spreads_19 zw_m_L_8 wYL_next wDL_next rfl (Nat.le_of_ble_eq_true rfl) (by decide) (by omega) (by omega) rfl ?_ (fun E τ hE => by obtain ⟨_, _, _, hE, _⟩ := hE; cases hE)
  rintro v3 τ3 ⟨m3, rho3, hm3, hv3, rfl⟩
  cases hv3
  refine zz_iload_n dL_spreads_22 rfl ?_
  refine zz_irem dL_spreads_23 (nI_ne0 (by omega) (by omega)) ?_
  refine zz_tope (y := nI (m3 % n)) (pk_rem (by omega) (by omega) (by omega)) ?_
  obtain ⟨b, hb, eb⟩ : ∃ b, b < n ∧ m3 % n = b := ⟨_, Nat.mod_lt _ (by omega), rfl⟩
  rw [eb]
  refine zz_istore dL_spreads_24 (by decide) ?_
  refine zz_iload dL_spreads_26 rfl ?_
  refine zz_if_lt (tgt := 106) dL_spreads_28 (by decide) (fun h => absurd h (nI_pos (by omega))) (fun _ => ?_)
  refine zz_aload_n dL_spreads_31 rfl ?_
  refine zz_iconst (v := 0) dL_spreads_32 (by decide) ?_
  refine zz_iload_n dL_spreads_33 rfl ?_
  refine zz_iconst (v := 0) dL_spreads_34 (by decide) ?_
  refine zz_callV (ci := 4) (x_mark_v (a := 0) (e := n) (Nat.zero_le n) (Nat.le_refl n) false hI1) dL_spreads_35 zw_m_L_37 wYX4_mark wDX4_mark rfl (by omega) px_x rfl (Nat.le_of_ble_eq_true rfl) (by decide) (by omega) (by omega) rfl ?_ (fun E τ hE => by cases hE.1)
  rintro v4 τ4 ⟨hv4, El4, Lo4, Hi4, BL4, BH4, Od4, Ls4, hI4, rfl⟩
  cases hv4
  have h0 : ∀ k, k < n → ptS mk 0 n false k = false := fun k hk => if_pos ⟨Nat.zero_le k, hk⟩
  rw [cnt_z h0]
  refine zz_if_ne (tgt := 106) dL_spreads_38 (by decide) (fun h => absurd rfl h) (fun _ => ?_)
  refine zz_aload_n dL_spreads_41 rfl ?_
  refine zz_callV (ci := 4) (x_eom hI4) dL_spreads_42 zw_m_L_184 wYX4_endOfMarks wDX4_endOfMarks rfl (by omega) px_x rfl (Nat.le_of_ble_eq_true rfl) (by decide) (by omega) (by omega) rfl ?_ (fun E τ hE => by cases hE.1)
  rintro v5 τ5 ⟨hv5, El5, Lo5, Hi5, BL5, BH5, Od5, Ls5, hI5, rfl⟩
  cases hv5
  rw [eom_0 h0]
  refine zz_if_ne (tgt := 106) dL_spreads_45 (by decide) (fun h => absurd rfl h) (fun _ => ?_)
  refine zz_aload_n dL_spreads_48 rfl ?_
  refine zz_bipush (v := 7) dL_spreads_49 (by decide) ?_
  refine zz_iconst (v := 0) dL_spreads_51 (by decide) ?_
  refine zz_iconst (v := 0) dL_spreads_52 (by decide) ?_
  refine zz_iconst (v := 0) dL_spreads_53 (by decide) ?_
  refine zz_callSH rfl (dm_x h0 0 hI5) dL_spreads_54 zw_m_L_72 wYL_done wDL_done rfl (Nat.le_of_ble_eq_true rfl) (by decide) (by omega) (by omega) rfl ?_ (fun E τ hE => by cases hE.1)
  rintro v6 τ6 ⟨hv6, rfl⟩
  cases hv6
  refine zz_bipush (v := (-4)) dL_spreads_57 (by decide) ?_
  refine zz_icmp_ne (tgt := 106) dL_spreads_59 (by decide) (fun h => absurd rfl h) (fun _ => ?_)
  refine zz_aload_n dL_spreads_62 rfl ?_
  refine zz_iload dL_spreads_63 rfl ?_
  refine zz_iload dL_spreads_65 rfl ?_
  refine zz_iconst (v := 1) dL_spreads_67 (by decide) ?_
  refine zz_iadd dL_spreads_68 ?_
  refine zz_tope (y := nI (b + 1)) (nI_1 b) ?_
  refine zz_iconst (v := 1) dL_spreads_69 (by decide) ?_
  refine zz_callV (ci := 4) (x_mark_v (a := b) (e := b + 1) (Nat.le_succ b) (by omega) true hI5) dL_spreads_70 zw_m_L_37 wYX4_mark wDX4_mark rfl (by omega) px_x rfl (Nat.le_of_ble_eq_true rfl) (by decide) (by omega) (by omega) rfl ?_ (fun E τ hE => by cases hE.1)
  rintro v7 τ7 ⟨hv7, El7, Lo7, Hi7, BL7, BH7, Od7, Ls7, hI7, rfl⟩
  cases hv7
  have hb1 : ptS (ptS mk 0 n false) b (b + 1) true b = true := if_pos ⟨Nat.le_refl b, Nat.lt_succ_self b⟩
  have hb0 : ∀ k, k < n → k ≠ b → ptS (ptS mk 0 n false) b (b + 1) true k = false := fun k hk hkb => by
    unfold ptS
    rw [if_neg (by omega)]
    exact h0 k hk
  rw [cnt_one hb1 hb hb0]
  refine zz_iconst (v := 1) dL_spreads_73 (by decide) ?_
  refine zz_icmp_ne (tgt := 106) dL_spreads_74 (by decide) (fun h => absurd rfl h) (fun _ => ?_)
  refine zz_aload_n dL_spreads_77 rfl ?_
  refine zz_callV (ci := 4) (x_eom hI7) dL_spreads_78 zw_m_L_184 wYX4_endOfMarks wDX4_endOfMarks rfl (by omega) px_x rfl (Nat.le_of_ble_eq_true rfl) (by decide) (by omega) (by omega) rfl ?_ (fun E τ hE => by cases hE.1)
  rintro v8 τ8 ⟨hv8, El8, Lo8, Hi8, BL8, BH8, Od8, Ls8, hI8, rfl⟩
  cases hv8
  rw [eom_1 hb1 hb (fun k h3 h4 => hb0 k h4 (by omega))]
  have h9z : cnt (ptS (ptS mk 0 n false) b (b + 1) true) b = 0 := cnt_z (fun k hk => hb0 k (by omega) (by omega))
  refine zz_iload dL_spreads_81 rfl ?_
  refine zz_iconst (v := 1) dL_spreads_83 (by decide) ?_
  refine zz_iadd dL_spreads_84 ?_
  refine zz_tope (y := nI (b + 1)) (nI_1 b) ?_
  refine zz_icmp_ne (tgt := 106) dL_spreads_85 (by decide) (fun h => absurd rfl h) (fun _ => ?_)
  refine zz_aload_n dL_spreads_88 rfl ?_
  refine zz_bipush (v := 7) dL_spreads_89 (by decide) ?_
  refine zz_iconst (v := 0) dL_spreads_91 (by decide) ?_
  refine zz_iconst (v := 0) dL_spreads_92 (by decide) ?_
  refine zz_iconst (v := 0) dL_spreads_93 (by decide) ?_
  refine zz_callSH rfl (dm_v0 hb hb1 h9z hI8) dL_spreads_94 zw_m_L_72 wYL_done wDL_done rfl (Nat.le_of_ble_eq_true rfl) (by decide) (by omega) (by omega) rfl ?_ (fun E τ hE => by cases hE.1)
  rintro v9 τ9 ⟨hv9, rfl⟩
  cases hv9
  refine zz_iload dL_spreads_97 rfl ?_
  refine zz_icmp_ne (tgt := 106) dL_spreads_99 (by decide) (fun h => absurd rfl h) (fun _ => ?_)
  refine zz_iconst (v := 1) dL_spreads_102 (by decide) ?_
  refine zz_goto (tgt := 107) dL_spreads_103 (by decide) ?_
  refine zz_istore dL_spreads_107 (by decide) ?_
  refine zz_aload_n dL_spreads_109 rfl ?_
  refine zz_iload_n dL_spreads_110 rfl ?_
  refine zz_iload dL_spreads_111 rfl ?_
  refine zz_callV (ci := 4) (x_countOf_v (r := r) hr hb hI8) dL_spreads_113 zw_m_L_44 wYX4_countOf wDX4_countOf rfl (by omega) px_x rfl (Nat.le_of_ble_eq_true rfl) (by decide) (by omega) (by omega) rfl ?_ (fun E τ hE => by cases hE.1)
  rintro v10 τ10 ⟨hv10, El10, Lo10, Hi10, BL10, BH10, Od10, Ls10, hI10, rfl⟩
  cases hv10
  refine zz_istore dL_spreads_116 (by decide) ?_
  refine zz_iload dL_spreads_118 rfl ?_
  refine zz_if_eq (tgt := 138) dL_spreads_120 (by decide) (fun h => absurd h (by decide)) (fun _ => ?_)
  refine zz_aload_n dL_spreads_123 rfl ?_
  refine zz_iload_n dL_spreads_124 rfl ?_
  refine zz_iconst (v := 0) dL_spreads_125 (by decide) ?_
  refine zz_callV (ci := 4) (x_spread_v (r := r) hr false hI10) dL_spreads_126 zw_m_L_187 wYX4_spread wDX4_spread rfl (by omega) px_x rfl (Nat.le_of_ble_eq_true rfl) (by decide) (by omega) (by omega) rfl ?_ (fun E τ hE => by cases hE.1)
  rintro v11 τ11 ⟨hv11, El11, Lo11, Hi11, BL11, BH11, Od11, Ls11, hI11, rfl⟩
  cases hv11
  have e11 : ∀ k, k < n → ((false && ptS (ptS mk 0 n false) b (b + 1) true k) || anb (fun i => ptS (ptS mk 0 n false) b (b + 1) true i && R r i k) n) = R r b k := fun k hk => by
    rw [Bool.false_and, Bool.false_or]
    refine bo_ext ⟨fun q => ?_, fun q => anb_t.mpr ⟨b, hb, by rw [hb1, q]; rfl⟩⟩
    obtain ⟨j, hj, q⟩ := anb_t.mp q
    by_cases e : j = b
    · rw [← e]; exact (bo_t q).2
    · rw [hb0 j hj e] at q; cases q
  rw [cnt_c e11]
  have hI12 := cI_c hI11 (R2 := R) (m2 := fun k => R r b k) (fun _ _ _ _ _ _ => rfl) e11
  refine zz_iload dL_spreads_129 rfl ?_
  refine zz_icmp_ne (tgt := 138) dL_spreads_131 (by decide) (fun h => absurd rfl h) (fun _ => ?_)
  refine zz_iconst (v := 1) dL_spreads_134 (by decide) ?_
  refine zz_goto (tgt := 139) dL_spreads_135 (by decide) ?_
  refine zz_istore dL_spreads_139 (by decide) ?_
  refine zz_iconst (v := 0) dL_spreads_141 (by decide) ?_
  refine zz_istore dL_spreads_142 (by decide) ?_
  refine zz_iconst (v := 0) dL_spreads_144 (by decide) ?_
  refine zz_istore dL_spreads_145 (by decide) ?_
  refine zz_less (rc1 := n + 84) (rz1 := 6 * n + 504) (by omega) (by omega) ?_
  refine zz_lvl (lv2 := [(11, .int (nI (cnt (fun k => R r b k) 0))), (10, .int (nI 0)), (9, .int (nI (cnt (fun k => R r b k) n))), (8, .int 1), (7, .int (nI b)), (0, .ref 52), (1, .ref 57), (2, .int (nI r)), (3, .int (nI n)), (4, .ref 54), (5, .ref 55)]) ⟨rfl, rfl, rfl, rfl, rfl, rfl, rfl, rfl, rfl, rfl, rfl, trivial⟩ ?_
  exact sp_147 hr hb hg54 (fun k hk => rfl) hI12 _ _ (sp_206 hr hb hg54 (fun k hk => rfl) hg2 hI12) n 0 (by omega)
end ZYS2
