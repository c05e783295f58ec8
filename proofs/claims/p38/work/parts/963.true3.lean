section ZYT3
variable {El : Nat → Int32} {Lo Hi : Nat → Nat → Int64} {BL BH : Nat → Int64} {Od : Nat → Nat → Int32} {Ls : Nat → Int32} {n : Nat} {R : Nat → Nat → Nat → Bool} {mk : Nat → Bool} {MB : Nat → Nat → Bool} {rho nu : Nat → Int32} {T : zz_St}
set_option maxHeartbeats 1000000 in
set_option maxRecDepth 20000 in
theorem c_isTrue {r : Nat} (hr : r < 3) (hk0 : zz_k T = 0) (hI : cI n El Lo Hi BL BH R mk) : zz_C mL_isTrue 11 1200 7200 [.ref 52, .ref 57, .int (nI r), .int (nI n), .ref 54, .ref 55, .ref 56] (px El Lo Hi BL BH Od Ls (nI n) (pl MB rho nu T)) (trQ n T) := by
  have hn := cI_n hI
  have h1 := cI_1 hI
  have hr4 : r < 4 := by omega
  have hvn : vf_n64 (FP.ddiv (FP.i2d (nI (pn n (R r)))) (FP.i2d (nI n))) := zf_ddiv (Nat.lt_succ_of_le (pn_6400 hn (R r))) (by omega) h1
  refine zz_start wPL_isTrue rfl rfl (Nat.le_of_ble_eq_true rfl) ?_
  refine zz_aload_n dL_isTrue_0 rfl ?_
  refine zz_iload_n dL_isTrue_1 rfl ?_
  refine zz_iload_n dL_isTrue_2 rfl ?_
  refine zz_aload dL_isTrue_3 rfl ?_
  refine zz_callS (y_sees (q := 54) hr4 (by omega) rfl hI) dL_isTrue_5 zw_m_L_87 wYL_sees wDL_sees rfl (Nat.le_of_ble_eq_true rfl) (by decide) (by omega) (by omega) rfl ?_ (fun E τ hE => by obtain ⟨_, _, _, hE, _⟩ := hE; cases hE)
  rintro v1 τ1 ⟨MB1, hg1, hp1, hv1, El1, Lo1, Hi1, BL1, BH1, Od1, Ls1, hI1, rfl⟩
  cases hv1
  refine zz_istore dL_isTrue_8 (by decide) ?_
  refine zz_aload dL_isTrue_10 rfl ?_
  refine zz_iload_n dL_isTrue_12 rfl ?_
  refine zz_aload dL_isTrue_13 rfl ?_
  refine zz_callS (c_closes (w := 54) (q := 55) (by omega) (by omega) (by decide) hn hg1) dL_isTrue_15 zw_m_L_91 wYL_closes wDL_closes rfl (Nat.le_of_ble_eq_true rfl) (by decide) (by omega) (by omega) rfl ?_ (fun E τ hE => by obtain ⟨_, _, _, hE, _⟩ := hE; cases hE)
  rintro v2 τ2 ⟨MB2, hg2, hp2, hv2, rfl⟩
  cases hv2
  have hg54 : gr n (MB2 54) (R r) := by rw [hp2 54 (by omega)]; exact hg1
  refine zz_aload dL_isTrue_18 rfl ?_
  refine zz_iload_n dL_isTrue_20 rfl ?_
  refine zz_callS1 (c_isRing (q := 55) (by omega) hn hg2) dL_isTrue_21 zw_m_L_95 wYL_isRing wDL_isRing rfl (Nat.le_of_ble_eq_true rfl) (by decide) rfl ?_
  refine zz_istore dL_isTrue_24 (by decide) ?_
  refine zz_aload_n dL_isTrue_26 rfl ?_
  refine zz_iload_n dL_isTrue_27 rfl ?_
  refine zz_callV (ci := 4) (y_count hr4 rfl hI1) dL_isTrue_28 zw_m_L_99 wYX4_count wDX4_count rfl (by omega) px_x rfl (Nat.le_of_ble_eq_true rfl) (by decide) (by omega) (by omega) rfl ?_ (fun E τ hE => by cases hE.1)
  rintro v3 τ3 ⟨hv3, El3, Lo3, Hi3, BL3, BH3, Od3, Ls3, hI3, rfl⟩
  cases hv3
  refine zz_iload dL_isTrue_31 rfl ?_
  refine zz_icmp_ne (tgt := 72) dL_isTrue_33 (by decide) (fun h => absurd rfl h) (fun _ => ?_)
  refine zz_aload_n dL_isTrue_36 rfl ?_
  refine zz_iload_n dL_isTrue_37 rfl ?_
  refine zz_callV (ci := 4) (x_hasRing_v hr4 hI3) dL_isTrue_38 zw_m_L_102 wYX4_hasRing wDX4_hasRing rfl (by omega) px_x rfl (Nat.le_of_ble_eq_true rfl) (by decide) (by omega) (by omega) rfl ?_ (fun E τ hE => by cases hE.1)
  rintro v4 τ4 ⟨hv4, El4, Lo4, Hi4, BL4, BH4, Od4, Ls4, hI4, rfl⟩
  cases hv4
  refine zz_iload dL_isTrue_41 rfl ?_
  refine zz_icmp_ne (tgt := 72) dL_isTrue_43 (by decide) (fun h => absurd rfl h) (fun _ => ?_)
  refine zz_aload_n dL_isTrue_46 rfl ?_
  refine zz_callV (ci := 4) (x_errors hI4) dL_isTrue_47 zw_m_L_106 wYX4_errors wDX4_errors rfl (by omega) px_x rfl (Nat.le_of_ble_eq_true rfl) (by decide) (by omega) (by omega) rfl ?_ (fun E τ hE => by cases hE.1)
  rintro v5 τ5 ⟨hv5, El5, Lo5, Hi5, BL5, BH5, Od5, Ls5, hI5, rfl⟩
  cases hv5
  refine zz_if_ne (tgt := 72) dL_isTrue_50 (by decide) (fun h => absurd rfl h) (fun _ => ?_)
  refine zz_aload_n dL_isTrue_53 rfl ?_
  refine zz_iload_n dL_isTrue_54 rfl ?_
  refine zz_callV (ci := 4) (y_meanRow hr4 hI5) dL_isTrue_55 zw_m_L_110 wYX4_meanRow wDX4_meanRow rfl (by omega) px_x rfl (Nat.le_of_ble_eq_true rfl) (by decide) (by omega) (by omega) rfl ?_ (fun E τ hE => by cases hE.1)
  rintro v6 τ6 ⟨hv6, El6, Lo6, Hi6, BL6, BH6, Od6, Ls6, hI6, rfl⟩
  cases hv6
  refine zz_iload dL_isTrue_58 rfl ?_
  refine zz_i2d dL_isTrue_60 ?_
  refine zz_iload_n dL_isTrue_61 rfl ?_
  refine zz_i2d dL_isTrue_62 ?_
  refine zz_ddiv dL_isTrue_63 (hvn) ?_
  refine zz_dcmp dL_isTrue_64 ?_
  refine zz_if_ne (tgt := 72) dL_isTrue_65 (by decide) (fun h => absurd (by rw [dc_self hvn]; rfl) h) (fun _ => ?_)
  refine zz_iconst (v := 1) dL_isTrue_68 (by decide) ?_
  refine zz_goto (tgt := 73) dL_isTrue_69 (by decide) ?_
  refine zz_istore dL_isTrue_73 (by decide) ?_
  refine zz_aload_n dL_isTrue_75 rfl ?_
  refine zz_callS (c_next) dL_isTrue_76 zw_m_L_8 wYL_next wDL_next rfl (Nat.le_of_ble_eq_true rfl) (by decide) (by omega) (by omega) rfl ?_ (fun E τ hE => by obtain ⟨_, _, _, hE, _⟩ := hE; cases hE)
  rintro v7 τ7 ⟨m7, rho7, hm7, hv7, rfl⟩
  cases hv7
  refine zz_iload_n dL_isTrue_79 rfl ?_
  refine zz_irem dL_isTrue_80 (nI_ne0 (by omega) (by omega)) ?_
  refine zz_tope (y := nI (m7 % n)) (pk_rem (by omega) (by omega) (by omega)) ?_
  obtain ⟨a, ha, ea⟩ : ∃ a, a < n ∧ m7 % n = a := ⟨_, Nat.mod_lt _ (by omega), rfl⟩
  rw [ea]
  refine zz_istore dL_isTrue_81 (by decide) ?_
  refine zz_aload_n dL_isTrue_83 rfl ?_
  refine zz_callS (c_next) dL_isTrue_84 zw_m_L_8 wYL_next wDL_next rfl (Nat.le_of_ble_eq_true rfl) (by decide) (by omega) (by omega) rfl ?_ (fun E τ hE => by obtain ⟨_, _, _, hE, _⟩ := hE; cases hE)
  rintro v8 τ8 ⟨m8, rho8, hm8, hv8, rfl⟩
  cases hv8
  refine zz_iload_n dL_isTrue_87 rfl ?_
  refine zz_irem dL_isTrue_88 (nI_ne0 (by omega) (by omega)) ?_
  refine zz_tope (y := nI (m8 % n)) (pk_rem (by omega) (by omega) (by omega)) ?_
  obtain ⟨b, hb, eb⟩ : ∃ b, b < n ∧ m8 % n = b := ⟨_, Nat.mod_lt _ (by omega), rfl⟩
  rw [eb]
  refine zz_istore dL_isTrue_89 (by decide) ?_
  refine zz_iload dL_isTrue_91 rfl ?_
  refine zz_if_eq (tgt := 146) dL_isTrue_93 (by decide) (fun h => absurd h (by decide)) (fun _ => ?_)
  refine zz_aload_n dL_isTrue_96 rfl ?_
  refine zz_iload_n dL_isTrue_97 rfl ?_
  refine zz_iload dL_isTrue_98 rfl ?_
  refine zz_iload dL_isTrue_100 rfl ?_
  refine zz_callV (ci := 4) (x_steps_v hr4 ha hb hI6) dL_isTrue_102 zw_m_L_114 wYX4_steps wDX4_steps rfl (by omega) px_x rfl (Nat.le_of_ble_eq_true rfl) (by decide) (by omega) (by omega) rfl ?_ (fun E τ hE => by obtain ⟨_, _, hE, _⟩ := hE; cases hE)
  rintro v9 τ9 ⟨v9x, hst9, hv9, El9, Lo9, Hi9, BL9, BH9, Od9, Ls9, hI9, rfl⟩
  cases hv9
  have hz := st_z hn hb hst9
  refine zz_if_le (tgt := 112) dL_isTrue_105 (by decide) (fun h105 => ?_) (fun h105 => ?_)
  · refine zz_iconst (v := 0) dL_isTrue_112 (by decide) ?_
    refine zz_topz (b := rchB (R r) n a b) (by first | exact hz.1 h105 | exact hz.2 h105) ?_
    refine zz_aload dL_isTrue_113 rfl ?_
    refine zz_bipush (v := 80) dL_isTrue_115 (by decide) ?_
    refine zz_iload dL_isTrue_117 rfl ?_
    refine zz_imul dL_isTrue_119 ?_
    refine zz_iload dL_isTrue_120 rfl ?_
    refine zz_iadd dL_isTrue_122 ?_
    refine zz_tope (y := nI (80 * a + b)) (by simp only [i80, i81, pk_mul, nI_add, nI_1]) ?_
    refine zl_qb dL_isTrue_123 (by omega) (by omega) ?_
    rw [hg2 a b ha hb]
    refine zz_icmp_ne (tgt := 146) dL_isTrue_124 (by decide) (fun h => absurd rfl h) (fun _ => ?_)
    refine zz_aload_n dL_isTrue_127 rfl ?_
    refine zz_iload_n dL_isTrue_128 rfl ?_
    refine zz_iload dL_isTrue_129 rfl ?_
    refine zz_iload dL_isTrue_131 rfl ?_
    refine zz_iload_n dL_isTrue_133 rfl ?_
    refine zz_aload dL_isTrue_134 rfl ?_
    refine zz_callS (c_isStep hr4 ha hb hg54 hI9) dL_isTrue_136 zw_m_L_117 wYL_isStep wDL_isStep rfl (Nat.le_of_ble_eq_true rfl) (by decide) (by omega) (by omega) rfl ?_ (fun E τ hE => by cases hE.1)
    rintro v10 τ10 ⟨hv10, El10, Lo10, Hi10, BL10, BH10, Od10, Ls10, hI10, rfl⟩
    cases hv10
    refine zz_if_eq (tgt := 146) dL_isTrue_139 (by decide) (fun h => absurd h (by decide)) (fun _ => ?_)
    refine zz_iconst (v := 1) dL_isTrue_142 (by decide) ?_
    refine zz_goto (tgt := 147) dL_isTrue_143 (by decide) ?_
    refine zz_istore dL_isTrue_147 (by decide) ?_
    refine zz_iconst (v := 0) dL_isTrue_149 (by decide) ?_
    refine zz_istore dL_isTrue_150 (by decide) ?_
    refine zz_iconst (v := 0) dL_isTrue_152 (by decide) ?_
    refine zz_istore dL_isTrue_153 (by decide) ?_
    refine zz_less (rc1 := n + 700) (rz1 := 6 * n + 4200) (by omega) (by omega) ?_
    refine zz_lvl (lv2 := [(13, .int (nI 0)), (12, .int (nI (cnt (fun j => decide (lsN (rchB (R r) n) j = j)) 0))), (9, .int 1), (8, .int (zB (anb (fun k => rchB (R r) n k k) n))), (7, .int (nI (pn n (R r)))), (0, .ref 52), (1, .ref 57), (2, .int (nI r)), (3, .int (nI n)), (4, .ref 54), (5, .ref 55), (6, .ref 56)]) ⟨rfl, rfl, rfl, rfl, rfl, rfl, rfl, rfl, rfl, rfl, rfl, rfl, trivial⟩ ?_
    exact tr_155 hr hn hg2 700 4200 (fun _ _ _ _ _ _ _ hI11 => tr_259 hr hI11 hg54 hg2 hk0) n 0 (by omega) _ _ _ _ _ _ _ hI10
  · refine zz_iconst (v := 1) dL_isTrue_108 (by decide) ?_
    refine zz_goto (tgt := 113) dL_isTrue_109 (by decide) ?_
    refine zz_topz (b := rchB (R r) n a b) (by first | exact hz.1 h105 | exact hz.2 h105) ?_
    refine zz_aload dL_isTrue_113 rfl ?_
    refine zz_bipush (v := 80) dL_isTrue_115 (by decide) ?_
    refine zz_iload dL_isTrue_117 rfl ?_
    refine zz_imul dL_isTrue_119 ?_
    refine zz_iload dL_isTrue_120 rfl ?_
    refine zz_iadd dL_isTrue_122 ?_
    refine zz_tope (y := nI (80 * a + b)) (by simp only [i80, i81, pk_mul, nI_add, nI_1]) ?_
    refine zl_qb dL_isTrue_123 (by omega) (by omega) ?_
    rw [hg2 a b ha hb]
    refine zz_icmp_ne (tgt := 146) dL_isTrue_124 (by decide) (fun h => absurd rfl h) (fun _ => ?_)
    refine zz_aload_n dL_isTrue_127 rfl ?_
    refine zz_iload_n dL_isTrue_128 rfl ?_
    refine zz_iload dL_isTrue_129 rfl ?_
    refine zz_iload dL_isTrue_131 rfl ?_
    refine zz_iload_n dL_isTrue_133 rfl ?_
    refine zz_aload dL_isTrue_134 rfl ?_
    refine zz_callS (c_isStep hr4 ha hb hg54 hI9) dL_isTrue_136 zw_m_L_117 wYL_isStep wDL_isStep rfl (Nat.le_of_ble_eq_true rfl) (by decide) (by omega) (by omega) rfl ?_ (fun E τ hE => by cases hE.1)
    rintro v10 τ10 ⟨hv10, El10, Lo10, Hi10, BL10, BH10, Od10, Ls10, hI10, rfl⟩
    cases hv10
    refine zz_if_eq (tgt := 146) dL_isTrue_139 (by decide) (fun h => absurd h (by decide)) (fun _ => ?_)
    refine zz_iconst (v := 1) dL_isTrue_142 (by decide) ?_
    refine zz_goto (tgt := 147) dL_isTrue_143 (by decide) ?_
    refine zz_istore dL_isTrue_147 (by decide) ?_
    refine zz_iconst (v := 0) dL_isTrue_149 (by decide) ?_
    refine zz_istore dL_isTrue_150 (by decide) ?_
    refine zz_iconst (v := 0) dL_isTrue_152 (by decide) ?_
    refine zz_istore dL_isTrue_153 (by decide) ?_
    refine zz_less (rc1 := n + 700) (rz1 := 6 * n + 4200) (by omega) (by omega) ?_
    refine zz_lvl (lv2 := [(13, .int (nI 0)), (12, .int (nI (cnt (fun j => decide (lsN (rchB (R r) n) j = j)) 0))), (9, .int 1), (8, .int (zB (anb (fun k => rchB (R r) n k k) n))), (7, .int (nI (pn n (R r)))), (0, .ref 52), (1, .ref 57), (2, .int (nI r)), (3, .int (nI n)), (4, .ref 54), (5, .ref 55), (6, .ref 56)]) ⟨rfl, rfl, rfl, rfl, rfl, rfl, rfl, rfl, rfl, rfl, rfl, rfl, trivial⟩ ?_
    exact tr_155 hr hn hg2 700 4200 (fun _ _ _ _ _ _ _ hI11 => tr_259 hr hI11 hg54 hg2 hk0) n 0 (by omega) _ _ _ _ _ _ _ hI10
end ZYT3
