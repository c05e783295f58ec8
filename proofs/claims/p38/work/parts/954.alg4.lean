section ZYW4
variable {El : Nat → Int32} {Lo Hi : Nat → Nat → Int64} {BL BH : Nat → Int64} {Od : Nat → Nat → Int32} {Ls : Nat → Int32} {n : Nat} {R : Nat → Nat → Nat → Bool} {mk : Nat → Bool} {MB : Nat → Nat → Bool} {rho nu : Nat → Int32} {T : zz_St}
set_option maxHeartbeats 1000000 in
set_option maxRecDepth 20000 in
theorem c_isAlgebra (hI : cI n El Lo Hi BL BH R mk) : zz_C mL_isAlgebra 9 2400 14400 [.ref 52, .ref 57, .int (nI n), .ref 54, .ref 55, .ref 56] (px El Lo Hi BL BH Od Ls (nI n) (pl MB rho nu T)) (trQ n T) := by
  have hn := cI_n hI
  have h1 := cI_1 hI
  refine zz_start wPL_isAlgebra rfl rfl (Nat.le_of_ble_eq_true rfl) ?_
  refine zz_aload_n dL_isAlgebra_0 rfl ?_
  refine zz_callS (c_next) dL_isAlgebra_1 zw_m_L_8 wYL_next wDL_next rfl (Nat.le_of_ble_eq_true rfl) (by decide) (by omega) (by omega) rfl ?_ (fun E τ hE => by obtain ⟨_, _, _, hE, _⟩ := hE; cases hE)
  rintro v1 τ1 ⟨m1, rho1, hm1, hv1, rfl⟩
  cases hv1
  refine zz_iconst (v := 3) dL_isAlgebra_4 (by decide) ?_
  refine zz_irem dL_isAlgebra_5 ((by decide)) ?_
  refine zz_tope (y := nI (m1 % 3)) (pk_rem (d := 3) (by omega) (by omega) (by omega)) ?_
  obtain ⟨a, ha, ea⟩ : ∃ a, a < 3 ∧ m1 % 3 = a := ⟨_, Nat.mod_lt _ (by omega), rfl⟩
  rw [ea]
  refine zz_istore dL_isAlgebra_6 (by decide) ?_
  refine zz_aload_n dL_isAlgebra_8 rfl ?_
  refine zz_callS (c_next) dL_isAlgebra_9 zw_m_L_8 wYL_next wDL_next rfl (Nat.le_of_ble_eq_true rfl) (by decide) (by omega) (by omega) rfl ?_ (fun E τ hE => by obtain ⟨_, _, _, hE, _⟩ := hE; cases hE)
  rintro v2 τ2 ⟨m2, rho2, hm2, hv2, rfl⟩
  cases hv2
  refine zz_iconst (v := 3) dL_isAlgebra_12 (by decide) ?_
  refine zz_irem dL_isAlgebra_13 ((by decide)) ?_
  refine zz_tope (y := nI (m2 % 3)) (pk_rem (d := 3) (by omega) (by omega) (by omega)) ?_
  obtain ⟨b, hb, eb⟩ : ∃ b, b < 3 ∧ m2 % 3 = b := ⟨_, Nat.mod_lt _ (by omega), rfl⟩
  rw [eb]
  refine zz_istore dL_isAlgebra_14 (by decide) ?_
  refine zz_aload_n dL_isAlgebra_16 rfl ?_
  refine zz_callS (c_next) dL_isAlgebra_17 zw_m_L_8 wYL_next wDL_next rfl (Nat.le_of_ble_eq_true rfl) (by decide) (by omega) (by omega) rfl ?_ (fun E τ hE => by obtain ⟨_, _, _, hE, _⟩ := hE; cases hE)
  rintro v3 τ3 ⟨m3, rho3, hm3, hv3, rfl⟩
  cases hv3
  refine zz_iconst (v := 3) dL_isAlgebra_20 (by decide) ?_
  refine zz_irem dL_isAlgebra_21 ((by decide)) ?_
  refine zz_tope (y := nI (m3 % 3)) (pk_rem (d := 3) (by omega) (by omega) (by omega)) ?_
  obtain ⟨c, hc, ec⟩ : ∃ c, c < 3 ∧ m3 % 3 = c := ⟨_, Nat.mod_lt _ (by omega), rfl⟩
  rw [ec]
  have ha4 : a < 4 := by omega
  have hb4 : b < 4 := by omega
  have hc4 : c < 4 := by omega
  have ha3 : a ≠ 3 := by omega
  have hb3 : b ≠ 3 := by omega
  have hc3 : c ≠ 3 := by omega
  have eas : pn n (cpR n (R a) (cpR n (R b) (R c))) = pn n (cpR n (cpR n (R a) (R b)) (R c)) := pn_c (fun i k _ _ => (cpR_as n (R a) (R b) (R c) i k).symm)
  refine zz_istore dL_isAlgebra_22 (by decide) ?_
  refine zz_aload_n dL_isAlgebra_24 rfl ?_
  refine zz_iload dL_isAlgebra_25 rfl ?_
  refine zz_iload dL_isAlgebra_27 rfl ?_
  refine zz_iconst (v := 3) dL_isAlgebra_29 (by decide) ?_
  refine zz_callV (ci := 4) (y_compose ha4 hb4 rfl rfl hI) dL_isAlgebra_30 zw_m_L_160 wYX4_compose wDX4_compose rfl (by omega) px_x rfl (Nat.le_of_ble_eq_true rfl) (by decide) (by omega) (by omega) rfl ?_ (fun E τ hE => by cases hE.1)
  rintro v4 τ4 ⟨hv4, El4, Lo4, Hi4, BL4, BH4, Od4, Ls4, hI4, rfl⟩
  cases hv4
  refine zz_if_lt (tgt := 58) dL_isAlgebra_33 (by decide) (fun h => absurd h (pn_pos hn _)) (fun _ => ?_)
  refine zz_aload_n dL_isAlgebra_36 rfl ?_
  refine zz_iconst (v := 3) dL_isAlgebra_37 (by decide) ?_
  refine zz_iload dL_isAlgebra_38 rfl ?_
  refine zz_iconst (v := 3) dL_isAlgebra_40 (by decide) ?_
  refine zz_callV (ci := 4) (y_compose (a := 3) (by omega) hc4 (up_at _ _ _) (up_ne _ _ hc3) hI4) dL_isAlgebra_41 zw_m_L_160 wYX4_compose wDX4_compose rfl (by omega) px_x rfl (Nat.le_of_ble_eq_true rfl) (by decide) (by omega) (by omega) rfl ?_ (fun E τ hE => by cases hE.1)
  rintro v5 τ5 ⟨hv5, El5, Lo5, Hi5, BL5, BH5, Od5, Ls5, hI5, rfl⟩
  cases hv5
  rw [up_up] at hI5
  refine zz_aload_n dL_isAlgebra_44 rfl ?_
  refine zz_iconst (v := 3) dL_isAlgebra_45 (by decide) ?_
  refine zz_iload_n dL_isAlgebra_46 rfl ?_
  refine zz_aload_n dL_isAlgebra_47 rfl ?_
  refine zz_callS (y_sees (r := 3) (q := 54) (by omega) (by omega) (up_at _ _ _) hI5) dL_isAlgebra_48 zw_m_L_87 wYL_sees wDL_sees rfl (Nat.le_of_ble_eq_true rfl) (by decide) (by omega) (by omega) rfl ?_ (fun E τ hE => by obtain ⟨_, _, _, hE, _⟩ := hE; cases hE)
  rintro v6 τ6 ⟨MB6, hg6, hp6, hv6, El6, Lo6, Hi6, BL6, BH6, Od6, Ls6, hI6, rfl⟩
  cases hv6
  refine zz_icmp_ne (tgt := 58) dL_isAlgebra_51 (by decide) (fun h => absurd rfl h) (fun _ => ?_)
  refine zz_iconst (v := 1) dL_isAlgebra_54 (by decide) ?_
  refine zz_goto (tgt := 59) dL_isAlgebra_55 (by decide) ?_
  refine zz_istore dL_isAlgebra_59 (by decide) ?_
  refine zz_aload_n dL_isAlgebra_61 rfl ?_
  refine zz_iconst (v := 3) dL_isAlgebra_62 (by decide) ?_
  refine zz_iload_n dL_isAlgebra_63 rfl ?_
  refine zz_aload_n dL_isAlgebra_64 rfl ?_
  refine zz_callS (y_sees (r := 3) (q := 54) (by omega) (by omega) (up_at _ _ _) hI6) dL_isAlgebra_65 zw_m_L_87 wYL_sees wDL_sees rfl (Nat.le_of_ble_eq_true rfl) (by decide) (by omega) (by omega) rfl ?_ (fun E τ hE => by obtain ⟨_, _, _, hE, _⟩ := hE; cases hE)
  rintro v7 τ7 ⟨MB7, hg7, hp7, hv7, El7, Lo7, Hi7, BL7, BH7, Od7, Ls7, hI7, rfl⟩
  cases hv7
  refine zz_istore dL_isAlgebra_68 (by decide) ?_
  refine zz_iload dL_isAlgebra_70 rfl ?_
  refine zz_if_eq (tgt := 127) dL_isAlgebra_72 (by decide) (fun h => absurd h (by decide)) (fun _ => ?_)
  refine zz_aload_n dL_isAlgebra_75 rfl ?_
  refine zz_iload dL_isAlgebra_76 rfl ?_
  refine zz_iload dL_isAlgebra_78 rfl ?_
  refine zz_iconst (v := 3) dL_isAlgebra_80 (by decide) ?_
  refine zz_callV (ci := 4) (y_compose hb4 hc4 (up_ne _ _ hb3) (up_ne _ _ hc3) hI7) dL_isAlgebra_81 zw_m_L_160 wYX4_compose wDX4_compose rfl (by omega) px_x rfl (Nat.le_of_ble_eq_true rfl) (by decide) (by omega) (by omega) rfl ?_ (fun E τ hE => by cases hE.1)
  rintro v8 τ8 ⟨hv8, El8, Lo8, Hi8, BL8, BH8, Od8, Ls8, hI8, rfl⟩
  cases hv8
  rw [up_up] at hI8
  refine zz_if_lt (tgt := 127) dL_isAlgebra_84 (by decide) (fun h => absurd h (pn_pos hn _)) (fun _ => ?_)
  refine zz_aload_n dL_isAlgebra_87 rfl ?_
  refine zz_iload dL_isAlgebra_88 rfl ?_
  refine zz_iconst (v := 3) dL_isAlgebra_90 (by decide) ?_
  refine zz_iconst (v := 3) dL_isAlgebra_91 (by decide) ?_
  refine zz_callV (ci := 4) (y_compose (b := 3) ha4 (by omega) (up_ne _ _ ha3) (up_at _ _ _) hI8) dL_isAlgebra_92 zw_m_L_160 wYX4_compose wDX4_compose rfl (by omega) px_x rfl (Nat.le_of_ble_eq_true rfl) (by decide) (by omega) (by omega) rfl ?_ (fun E τ hE => by cases hE.1)
  rintro v9 τ9 ⟨hv9, El9, Lo9, Hi9, BL9, BH9, Od9, Ls9, hI9, rfl⟩
  cases hv9
  rw [up_up] at hI9
  refine zz_iload dL_isAlgebra_95 rfl ?_
  refine zz_icmp_ne (tgt := 127) dL_isAlgebra_97 (by decide) (fun h => absurd (by rw [eas]) h) (fun _ => ?_)
  refine zz_aload_n dL_isAlgebra_100 rfl ?_
  refine zz_iconst (v := 3) dL_isAlgebra_101 (by decide) ?_
  refine zz_iload_n dL_isAlgebra_102 rfl ?_
  refine zz_aload dL_isAlgebra_103 rfl ?_
  refine zz_callS (y_sees (r := 3) (q := 55) (by omega) (by omega) (up_at _ _ _) hI9) dL_isAlgebra_105 zw_m_L_87 wYL_sees wDL_sees rfl (Nat.le_of_ble_eq_true rfl) (by decide) (by omega) (by omega) rfl ?_ (fun E τ hE => by obtain ⟨_, _, _, hE, _⟩ := hE; cases hE)
  rintro v10 τ10 ⟨MB10, hg10, hp10, hv10, El10, Lo10, Hi10, BL10, BH10, Od10, Ls10, hI10, rfl⟩
  cases hv10
  have hab : ∀ i k, i < n → k < n → MB10 54 (80 * i + k) = MB10 55 (80 * i + k) := fun i k hi hk => by rw [hp10 54 (by omega), hg7 i k hi hk, hg10 i k hi hk, cpR_as]
  refine zz_iload dL_isAlgebra_108 rfl ?_
  refine zz_icmp_ne (tgt := 127) dL_isAlgebra_110 (by decide) (fun h => absurd (by rw [eas]) h) (fun _ => ?_)
  refine zz_aload_n dL_isAlgebra_113 rfl ?_
  refine zz_aload dL_isAlgebra_114 rfl ?_
  refine zz_iload_n dL_isAlgebra_116 rfl ?_
  refine zz_callS1 (k_isLike (q := 54) (w := 55) (by omega) (by omega) hn hab) dL_isAlgebra_117 zw_m_L_142 wYL_isLike wDL_isLike rfl (Nat.le_of_ble_eq_true rfl) (by decide) rfl ?_
  refine zz_if_eq (tgt := 127) dL_isAlgebra_120 (by decide) (fun h => absurd h (by decide)) (fun _ => ?_)
  refine zz_iconst (v := 1) dL_isAlgebra_123 (by decide) ?_
  refine zz_goto (tgt := 128) dL_isAlgebra_124 (by decide) ?_
  refine zz_istore dL_isAlgebra_128 (by decide) ?_
  refine zz_less (rc1 := 1900) (rz1 := 11400) (by omega) (by omega) ?_
  refine zz_lvl (lv2 := [(9, .int 1), (8, .int (nI c)), (7, .int (nI b)), (6, .int (nI a)), (0, .ref 52), (1, .ref 57), (2, .int (nI n)), (3, .ref 54), (4, .ref 55), (5, .ref 56)]) ⟨rfl, rfl, rfl, rfl, rfl, rfl, rfl, rfl, rfl, rfl, trivial⟩ ?_
  exact al_130 ha hb hc hI10
end ZYW4
