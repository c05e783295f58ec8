section ZYF
variable {El : Nat → Int32} {Lo Hi : Nat → Nat → Int64} {BL BH : Nat → Int64} {Od : Nat → Nat → Int32} {Ls : Nat → Int32} {n : Nat} {R : Nat → Nat → Nat → Bool} {mk : Nat → Bool} {MB : Nat → Nat → Bool} {rho nu : Nat → Int32} {T : zz_St}
/-- a relation's pairs as one row of booleans -/
def gR (R : Nat → Nat → Nat → Bool) : Nat → Bool := fun m => R (m / 6400) (m % 6400 / 80) (m % 80)
theorem gR_e {R : Nat → Nat → Nat → Bool} {r i k : Nat} (hi : i < 80) (hk : k < 80) : rf (gR R) r i k = R r i k := by
  show R ((6400 * r + 80 * i + k) / 6400) ((6400 * r + 80 * i + k) % 6400 / 80) ((6400 * r + 80 * i + k) % 80) = _
  rw [show (6400 * r + 80 * i + k) / 6400 = r by omega, show (6400 * r + 80 * i + k) % 6400 / 80 = i by omega, show (6400 * r + 80 * i + k) % 80 = k by omega]
theorem cI_g (h : cI n El Lo Hi BL BH R mk) : cI n El Lo Hi BL BH (rf (gR R)) mk := cI_c h (fun r i k _ hi hk => (gR_e (by have := cI_n h; omega) (by have := cI_n h; omega)).symm) (fun _ _ => rfl)
set_option maxHeartbeats 1000000 in
set_option maxRecDepth 20000 in
theorem dr_149 {r w : Nat} (hr : r < 4) (hw : w < 6) (hI : cI n El Lo Hi BL BH R mk) : zz_E mL_draws none 9 1 6 (fun o τ => ∃ R2 rho2, xQ n R2 mk (pl MB rho2 nu T) (.inl none) o τ) 149 [(4, .int (nI w)), (0, .ref 52), (1, .ref 57), (2, .int (nI r)), (3, .int (nI n))] [] (px El Lo Hi BL BH Od Ls (nI n) (pl MB rho nu T)) := by
  have hn := cI_n hI
  have h1 := cI_1 hI
  refine zz_iload dL_draws_149 rfl ?_
  refine zz_iconst (v := 5) dL_draws_151 (by decide) ?_
  refine zz_icmp_ne (tgt := 181) dL_draws_152 (by decide) (fun h152 => ?_) (fun h152 => ?_)
  · refine zz_vret dL_draws_181 rfl ?_
    first | exact ⟨R, rho, xQ_i rfl hI⟩ | exact ⟨_, _, xQ_i rfl hI3⟩
  · refine zz_aload_n dL_draws_155 rfl ?_
    refine zz_iload_n dL_draws_156 rfl ?_
    refine zz_aload_n dL_draws_157 rfl ?_
    refine zz_callS (c_next) dL_draws_158 zw_m_L_8 wYL_next wDL_next rfl (Nat.le_of_ble_eq_true rfl) (by decide) (by omega) (by omega) rfl ?_ (fun E τ hE => by obtain ⟨_, _, _, hE, _⟩ := hE; cases hE)
    rintro v1 τ1 ⟨m1, rho1, hm1, hv1, rfl⟩
    cases hv1
    refine zz_iload_n dL_draws_161 rfl ?_
    refine zz_irem dL_draws_162 (nI_ne0 (by omega) (by omega)) ?_
    refine zz_tope (y := nI (m1 % n)) (pk_rem (by omega) (by omega) (by omega)) ?_
    refine zz_aload_n dL_draws_163 rfl ?_
    refine zz_callS (c_next) dL_draws_164 zw_m_L_8 wYL_next wDL_next rfl (Nat.le_of_ble_eq_true rfl) (by decide) (by omega) (by omega) rfl ?_ (fun E τ hE => by obtain ⟨_, _, _, hE, _⟩ := hE; cases hE)
    rintro v2 τ2 ⟨m2, rho2, hm2, hv2, rfl⟩
    cases hv2
    refine zz_i2l dL_draws_167 rfl ?_
    refine zz_ldc2 dL_draws_168 zw_k_L_79 ?_
    refine zz_lmul dL_draws_171 ?_
    refine zz_ldc2 dL_draws_172 zw_k_L_81 ?_
    refine zz_lmul dL_draws_175 ?_
    refine zz_callV (ci := 4) (x_setRow_v hr (Nat.mod_lt m1 (show 0 < n by omega)) _ hI) dL_draws_176 zw_m_L_83 wYX4_setRow wDX4_setRow rfl (by omega) px_x rfl (Nat.le_of_ble_eq_true rfl) (by decide) (by omega) (by omega) rfl ?_ (fun E τ hE => by cases hE.1)
    rintro v3 τ3 ⟨hv3, El3, Lo3, Hi3, BL3, BH3, Od3, Ls3, hI3, rfl⟩
    cases hv3
    refine zz_istore dL_draws_179 (by decide) ?_
    refine zz_vret dL_draws_181 rfl ?_
    first | exact ⟨R, rho, xQ_i rfl hI⟩ | exact ⟨_, _, xQ_i rfl hI3⟩
set_option maxHeartbeats 1000000 in
set_option maxRecDepth 20000 in
theorem dr_122 {r w : Nat} (hr : r < 4) (hw : w < 6) : ∀ (m i : Nat), i + m = n → ∀ (R : Nat → Nat → Nat → Bool) (El : Nat → Int32) (Lo Hi : Nat → Nat → Int64) (BL BH : Nat → Int64) (Od : Nat → Nat → Int32) (Ls : Nat → Int32), cI n El Lo Hi BL BH R mk → zz_E mL_draws none 9 (m + 1) (6 * m + 6) (fun o τ => ∃ R2 rho2, xQ n R2 mk (pl MB rho2 nu T) (.inl none) o τ) 122 [(7, .int (nI i)), (4, .int (nI w)), (0, .ref 52), (1, .ref 57), (2, .int (nI r)), (3, .int (nI n))] [] (px El Lo Hi BL BH Od Ls (nI n) (pl MB rho nu T)) := by
  intro m
  induction m with
  | zero =>
    intro i hi R El Lo Hi BL BH Od Ls hI
    have hn := cI_n hI
    have hk : n = i := by omega
    subst hk
    refine zz_iload dL_draws_122 rfl ?_
    refine zz_iload_n dL_draws_124 rfl ?_
    refine zz_icmp_ge (tgt := 149) dL_draws_125 (by decide) (fun _ => ?_) (fun h => absurd (nI_le (Nat.le_refl _) (by omega)) h)
    refine zz_lvl (lv2 := [(4, .int (nI w)), (0, .ref 52), (1, .ref 57), (2, .int (nI r)), (3, .int (nI n))]) ⟨rfl, rfl, rfl, rfl, rfl, trivial⟩ ?_
    exact zz_less (by omega) (by omega) (dr_149 hr hw hI)
  | succ m ih =>
    intro i hi R El Lo Hi BL BH Od Ls hI
    have hn := cI_n hI
    have hk : i < n := by omega
    refine zz_iload dL_draws_122 rfl ?_
    refine zz_iload_n dL_draws_124 rfl ?_
    refine zz_icmp_ge (tgt := 149) dL_draws_125 (by decide) (fun h => absurd h (nI_ge (by omega) (by omega))) (fun _ => ?_)
    refine zz_aload_n dL_draws_128 rfl ?_
    refine zz_iload_n dL_draws_129 rfl ?_
    refine zz_iload dL_draws_130 rfl ?_
    refine zz_iconst (v := 0) dL_draws_132 (by decide) ?_
    refine zz_iload dL_draws_133 rfl ?_
    refine zz_iconst (v := 1) dL_draws_135 (by decide) ?_
    refine zz_iadd dL_draws_136 ?_
    refine zz_tope (y := nI (i + 1)) (nI_1 i) ?_
    refine zz_iconst (v := 0) dL_draws_137 (by decide) ?_
    refine zz_callV (ci := 4) (x_setRange_v hr hk (Nat.zero_le (i + 1)) (by omega) false hI) dL_draws_138 zw_m_L_47 wYX4_setRange wDX4_setRange rfl (by omega) px_x rfl (Nat.le_of_ble_eq_true rfl) (by decide) (by omega) (by omega) rfl ?_ (fun E τ hE => by cases hE.1)
    rintro v1 τ1 ⟨hv1, El1, Lo1, Hi1, BL1, BH1, Od1, Ls1, hI1, rfl⟩
    cases hv1
    refine zz_istore dL_draws_141 (by decide) ?_
    refine zz_iinc (v := nI (i + 1)) dL_draws_143 rfl (nI_1 i) (by decide) ?_
    refine zz_goto (tgt := 122) dL_draws_146 (by decide) ?_
    refine zz_less (rc1 := m + 1) (rz1 := 6 * m + 6) (by omega) (by omega) ?_
    refine zz_lvl (lv2 := [(7, .int (nI (i + 1))), (4, .int (nI w)), (0, .ref 52), (1, .ref 57), (2, .int (nI r)), (3, .int (nI n))]) ⟨rfl, rfl, rfl, rfl, rfl, rfl, trivial⟩ ?_
    exact ih (i + 1) (by omega) _ _ _ _ _ _ _ _ hI1
set_option maxHeartbeats 1000000 in
set_option maxRecDepth 20000 in
theorem dr_104 {r w : Nat} (hr : r < 4) (hw : w < 6) (hI : cI n El Lo Hi BL BH R mk) : zz_E mL_draws none 9 81 486 (fun o τ => ∃ R2 rho2, xQ n R2 mk (pl MB rho2 nu T) (.inl none) o τ) 104 [(4, .int (nI w)), (0, .ref 52), (1, .ref 57), (2, .int (nI r)), (3, .int (nI n))] [] (px El Lo Hi BL BH Od Ls (nI n) (pl MB rho nu T)) := by
  have hn := cI_n hI
  have h1 := cI_1 hI
  refine zz_iload dL_draws_104 rfl ?_
  refine zz_iconst (v := 5) dL_draws_106 (by decide) ?_
  refine zz_icmp_ge (tgt := 149) dL_draws_107 (by decide) (fun h107 => ?_) (fun h107 => ?_)
  · refine zz_lvl (lv2 := [(4, .int (nI w)), (0, .ref 52), (1, .ref 57), (2, .int (nI r)), (3, .int (nI n))]) ⟨rfl, rfl, rfl, rfl, rfl, trivial⟩ ?_
    exact zz_less (by omega) (by omega) (dr_149 hr hw hI)
  · refine zz_aload_n dL_draws_110 rfl ?_
    refine zz_callS (c_next) dL_draws_111 zw_m_L_8 wYL_next wDL_next rfl (Nat.le_of_ble_eq_true rfl) (by decide) (by omega) (by omega) rfl ?_ (fun E τ hE => by obtain ⟨_, _, _, hE, _⟩ := hE; cases hE)
    rintro v1 τ1 ⟨m1, rho1, hm1, hv1, rfl⟩
    cases hv1
    refine zz_iconst (v := 2) dL_draws_114 (by decide) ?_
    refine zz_irem dL_draws_115 ((by decide)) ?_
    refine zz_if_ne (tgt := 149) dL_draws_116 (by decide) (fun h116 => ?_) (fun h116 => ?_)
    · refine zz_lvl (lv2 := [(4, .int (nI w)), (0, .ref 52), (1, .ref 57), (2, .int (nI r)), (3, .int (nI n))]) ⟨rfl, rfl, rfl, rfl, rfl, trivial⟩ ?_
      exact zz_less (by omega) (by omega) (dr_149 hr hw hI)
    · refine zz_iconst (v := 0) dL_draws_119 (by decide) ?_
      refine zz_istore dL_draws_120 (by decide) ?_
      refine zz_less (rc1 := n + 1) (rz1 := 6 * n + 6) (by omega) (by omega) ?_
      refine zz_lvl (lv2 := [(7, .int (nI 0)), (4, .int (nI w)), (0, .ref 52), (1, .ref 57), (2, .int (nI r)), (3, .int (nI n))]) ⟨rfl, rfl, rfl, rfl, rfl, rfl, trivial⟩ ?_
      exact dr_122 hr hw n 0 (by omega) _ _ _ _ _ _ _ _ hI
set_option maxHeartbeats 1000000 in
set_option maxRecDepth 20000 in
theorem dr_63 {r w : Nat} (hr : r < 4) (hw : w < 6) {v : Nat} (hv : v ≤ 150) (hI : cI n El Lo Hi BL BH R mk) : zz_E mL_draws none 9 83 498 (fun o τ => ∃ R2 rho2, xQ n R2 mk (pl MB rho2 nu T) (.inl none) o τ) 63 [(4, .int (nI w)), (0, .ref 52), (1, .ref 57), (2, .int (nI r)), (3, .int (nI n))] [.int (nI v)] (px El Lo Hi BL BH Od Ls (nI n) (pl MB rho nu T)) := by
  have hn := cI_n hI
  have h1 := cI_1 hI
  refine zz_istore dL_draws_63 (by decide) ?_
  refine zz_aload_n dL_draws_65 rfl ?_
  refine zz_iconst (v := 4) dL_draws_66 (by decide) ?_
  refine zz_iload_n dL_draws_67 rfl ?_
  refine zz_aload_n dL_draws_68 rfl ?_
  refine zz_callS (c_next) dL_draws_69 zw_m_L_8 wYL_next wDL_next rfl (Nat.le_of_ble_eq_true rfl) (by decide) (by omega) (by omega) rfl ?_ (fun E τ hE => by obtain ⟨_, _, _, hE, _⟩ := hE; cases hE)
  rintro v1 τ1 ⟨m1, rho1, hm1, hv1, rfl⟩
  cases hv1
  refine zz_sipush (v := 517) dL_draws_72 (by decide) ?_
  refine zz_imul dL_draws_75 ?_
  refine zz_iconst (v := 3) dL_draws_76 (by decide) ?_
  refine zz_iadd dL_draws_77 ?_
  refine zz_sipush (v := 200) dL_draws_78 (by decide) ?_
  refine zz_iload dL_draws_81 rfl ?_
  refine zz_min dL_draws_83 zw_m_L_67 (by omega) (Nat.le_of_ble_eq_true rfl) ?_
  refine zz_tope (y := nI v) (if_pos (nI_lt (b := 200) (by omega) (by omega))) ?_
  refine zz_callSH rfl (dv_draw px_x (nI r) _ (nI v) (x_draw_v hr (gR R) _ (show v ≤ 200 by omega) (cI_g hI))) dL_draws_86 zw_m_L_72 wYL_done wDL_done rfl (Nat.le_of_ble_eq_true rfl) (by decide) (by omega) (by omega) rfl ?_ (fun E τ hE => by cases hE.1)
  rintro v2 τ2 ⟨hv2, El2, Lo2, Hi2, BL2, BH2, Od2, Ls2, hI2, rfl⟩
  cases hv2
  refine zz_istore dL_draws_89 (by decide) ?_
  refine zz_iload dL_draws_91 rfl ?_
  refine zz_iconst (v := 4) dL_draws_93 (by decide) ?_
  refine zz_icmp_ne (tgt := 104) dL_draws_94 (by decide) (fun h94 => ?_) (fun h94 => ?_)
  refine zz_lvl (lv2 := [(4, .int (nI w)), (0, .ref 52), (1, .ref 57), (2, .int (nI r)), (3, .int (nI n))]) ⟨rfl, rfl, rfl, rfl, rfl, trivial⟩ ?_
  exact zz_less (by omega) (by omega) (dr_104 hr hw hI2)
  · refine zz_aload_n dL_draws_97 rfl ?_
    refine zz_iload_n dL_draws_98 rfl ?_
    refine zz_callV (ci := 4) (x_chain_v hr (gR _) (cI_g hI2)) dL_draws_99 zw_m_L_76 wYX4_chain wDX4_chain rfl (by omega) px_x rfl (Nat.le_of_ble_eq_true rfl) (by decide) (by omega) (by omega) rfl ?_ (fun E τ hE => by cases hE.1)
    rintro v3 τ3 ⟨hv3, El3, Lo3, Hi3, BL3, BH3, Od3, Ls3, hI3, rfl⟩
    cases hv3
    refine zz_istore dL_draws_102 (by decide) ?_
    refine zz_lvl (lv2 := [(4, .int (nI w)), (0, .ref 52), (1, .ref 57), (2, .int (nI r)), (3, .int (nI n))]) ⟨rfl, rfl, rfl, rfl, rfl, trivial⟩ ?_
    exact zz_less (by omega) (by omega) (dr_104 hr hw hI3)
set_option maxHeartbeats 1000000 in
set_option maxRecDepth 20000 in
theorem c_draws {r : Nat} (hr : r < 4) (hI : cI n El Lo Hi BL BH R mk) : zz_C mL_draws 9 90 540 [.ref 52, .ref 57, .int (nI r), .int (nI n)] (px El Lo Hi BL BH Od Ls (nI n) (pl MB rho nu T)) (fun o τ => ∃ R2 rho2, xQ n R2 mk (pl MB rho2 nu T) (.inl none) o τ) := by
  have hn := cI_n hI
  have h1 := cI_1 hI
  refine zz_start wPL_draws rfl rfl (Nat.le_of_ble_eq_true rfl) ?_
  refine zz_aload_n dL_draws_0 rfl ?_
  refine zz_callS (c_next) dL_draws_1 zw_m_L_8 wYL_next wDL_next rfl (Nat.le_of_ble_eq_true rfl) (by decide) (by omega) (by omega) rfl ?_ (fun E τ hE => by obtain ⟨_, _, _, hE, _⟩ := hE; cases hE)
  rintro v1 τ1 ⟨m1, rho1, hm1, hv1, rfl⟩
  cases hv1
  refine zz_bipush (v := 6) dL_draws_4 (by decide) ?_
  refine zz_irem dL_draws_6 ((by decide)) ?_
  refine zz_tope (y := nI (m1 % 6)) (pk_rem (d := 6) (by omega) (by omega) (by omega)) ?_
  have hw6 := Nat.mod_lt m1 (show 0 < 6 by omega)
  refine zz_istore dL_draws_7 (by decide) ?_
  refine zz_iload dL_draws_9 rfl ?_
  refine zz_if_ne (tgt := 20) dL_draws_11 (by decide) (fun h11 => ?_) (fun h11 => ?_)
  · refine zz_iload dL_draws_20 rfl ?_
    refine zz_iconst (v := 1) dL_draws_22 (by decide) ?_
    refine zz_icmp_ne (tgt := 30) dL_draws_23 (by decide) (fun h23 => ?_) (fun h23 => ?_)
    · refine zz_iload dL_draws_30 rfl ?_
      refine zz_iconst (v := 2) dL_draws_32 (by decide) ?_
      refine zz_icmp_ne (tgt := 44) dL_draws_33 (by decide) (fun h33 => ?_) (fun h33 => ?_)
      · refine zz_iload dL_draws_44 rfl ?_
        refine zz_iconst (v := 3) dL_draws_46 (by decide) ?_
        refine zz_icmp_ne (tgt := 56) dL_draws_47 (by decide) (fun h47 => ?_) (fun h47 => ?_)
        · refine zz_aload_n dL_draws_56 rfl ?_
          refine zz_callS (c_next) dL_draws_57 zw_m_L_8 wYL_next wDL_next rfl (Nat.le_of_ble_eq_true rfl) (by decide) (by omega) (by omega) rfl ?_ (fun E τ hE => by obtain ⟨_, _, _, hE, _⟩ := hE; cases hE)
          rintro v2 τ2 ⟨m2, rho2, hm2, hv2, rfl⟩
          cases hv2
          refine zz_bipush (v := 20) dL_draws_60 (by decide) ?_
          refine zz_irem dL_draws_62 ((by decide)) ?_
          refine zz_tope (y := nI (m2 % 20)) (pk_rem (d := 20) (by omega) (by omega) (by omega)) ?_
          refine zz_lvl (lv2 := [(4, .int (nI (m1 % 6))), (0, .ref 52), (1, .ref 57), (2, .int (nI r)), (3, .int (nI n))]) ⟨rfl, rfl, rfl, rfl, rfl, trivial⟩ ?_
          exact zz_less (by omega) (by omega) (dr_63 (v := (m2 % 20)) hr hw6 (by omega) hI)
        · refine zz_sipush (v := 150) dL_draws_50 (by decide) ?_
          refine zz_goto (tgt := 63) dL_draws_53 (by decide) ?_
          refine zz_tope (y := nI 150) rfl ?_
          refine zz_lvl (lv2 := [(4, .int (nI (m1 % 6))), (0, .ref 52), (1, .ref 57), (2, .int (nI r)), (3, .int (nI n))]) ⟨rfl, rfl, rfl, rfl, rfl, trivial⟩ ?_
          exact zz_less (by omega) (by omega) (dr_63 (v := 150) hr hw6 (by omega) hI)
      · refine zz_iconst (v := 3) dL_draws_36 (by decide) ?_
        refine zz_iload_n dL_draws_37 rfl ?_
        refine zz_imul dL_draws_38 ?_
        refine zz_iconst (v := 2) dL_draws_39 (by decide) ?_
        refine zz_idiv dL_draws_40 ((by decide)) ?_
        refine zz_tope (y := nI (3 * n / 2)) (by rw [show (3 : Int32) = nI 3 from rfl, pk_mul]; exact pk_div (d := 2) (by omega) (by omega) (by omega)) ?_
        refine zz_goto (tgt := 63) dL_draws_41 (by decide) ?_
        refine zz_lvl (lv2 := [(4, .int (nI (m1 % 6))), (0, .ref 52), (1, .ref 57), (2, .int (nI r)), (3, .int (nI n))]) ⟨rfl, rfl, rfl, rfl, rfl, trivial⟩ ?_
        exact zz_less (by omega) (by omega) (dr_63 (v := (3 * n / 2)) hr hw6 (by omega) hI)
    · refine zz_iload_n dL_draws_26 rfl ?_
      refine zz_goto (tgt := 63) dL_draws_27 (by decide) ?_
      refine zz_lvl (lv2 := [(4, .int (nI (m1 % 6))), (0, .ref 52), (1, .ref 57), (2, .int (nI r)), (3, .int (nI n))]) ⟨rfl, rfl, rfl, rfl, rfl, trivial⟩ ?_
      exact zz_less (by omega) (by omega) (dr_63 (v := n) hr hw6 (by omega) hI)
  · refine zz_iload_n dL_draws_14 rfl ?_
    refine zz_iconst (v := 2) dL_draws_15 (by decide) ?_
    refine zz_idiv dL_draws_16 ((by decide)) ?_
    refine zz_tope (y := nI (n / 2)) (pk_div (d := 2) (by omega) (by omega) (by omega)) ?_
    refine zz_goto (tgt := 63) dL_draws_17 (by decide) ?_
    refine zz_lvl (lv2 := [(4, .int (nI (m1 % 6))), (0, .ref 52), (1, .ref 57), (2, .int (nI r)), (3, .int (nI n))]) ⟨rfl, rfl, rfl, rfl, rfl, trivial⟩ ?_
    exact zz_less (by omega) (by omega) (dr_63 (v := (n / 2)) hr hw6 (by omega) hI)
end ZYF
