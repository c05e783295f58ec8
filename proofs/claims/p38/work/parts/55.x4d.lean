section ZZX4D
variable {El : Nat → Int32} {Lo Hi : Nat → Nat → Int64} {BL BH : Nat → Int64} {Od : Nat → Nat → Int32} {Ls : Nat → Int32} {n : Nat} {R : Nat → Nat → Nat → Bool} {mk : Nat → Bool} {T : zz_St}
set_option maxHeartbeats 1000000 in
set_option maxRecDepth 20000 in
theorem x_beside_v {r i p h : Nat} (hr : r < 4) (hi : i < n) (hp : p < n) (hh : h < 4) (hI : cI n El Lo Hi BL BH R mk) : zz_C mX4_beside 7 1 6 [.ref 52, .int (nI r), .int (nI i), .int (nI p), .int (nI h)] (px El Lo Hi BL BH Od Ls (nI n) T) (fun o τ => ∃ v, (if h < 2 then upS (fun k => R r i k == (h % 2 == 0)) n p v else dnS (fun k => R r i k == (h % 2 == 0)) p v) ∧ xQ n R mk T (.inl (some (.int v))) o τ) := by
  have hn := cI_n hI
  rcases (show h = 0 ∨ h = 1 ∨ h = 2 ∨ h = 3 by omega) with rfl | rfl | rfl | rfl
  · refine zz_start wPX4_beside rfl rfl (Nat.le_of_ble_eq_true rfl) ?_
    refine zz_aload_n dX4_beside_0 rfl ?_
    refine zz_iload_n dX4_beside_1 rfl ?_
    refine zz_callV1 (ci := 4) (x_ra_v hr) dX4_beside_2 zw_m_X4_55 wYX4_relationAt wDX4_relationAt rfl (by omega) px_x rfl (Nat.le_of_ble_eq_true rfl) (by decide) rfl ?_
    refine zz_astore dX4_beside_5 (by decide) ?_
    refine zz_aload_n dX4_beside_7 rfl ?_
    refine zz_iload_n dX4_beside_8 rfl ?_
    refine zz_callV0 (ci := 4) (x_ce_v hi hn) dX4_beside_9 zw_m_X4_66 wYX4_checkElement wDX4_checkElement rfl (by omega) px_x rfl (Nat.le_of_ble_eq_true rfl) (by decide) rfl ?_
    refine zz_aload_n dX4_beside_12 rfl ?_
    refine zz_iload_n dX4_beside_13 rfl ?_
    refine zz_callV0 (ci := 4) (x_ce_v hp hn) dX4_beside_14 zw_m_X4_66 wYX4_checkElement wDX4_checkElement rfl (by omega) px_x rfl (Nat.le_of_ble_eq_true rfl) (by decide) rfl ?_
    refine zz_iload dX4_beside_17 rfl ?_
    refine zz_if_lt (tgt := 28) dX4_beside_19 (by decide) (fun h => absurd h (by decide)) (fun _ => ?_)
    refine zz_iload dX4_beside_22 rfl ?_
    refine zz_iconst (v := 3) dX4_beside_24 (by decide) ?_
    refine zz_icmp_le (tgt := 38) dX4_beside_25 (by decide) (fun _ => ?_) (fun h => absurd (by decide) h)
    refine zz_aload dX4_beside_38 rfl ?_
    refine zz_iload_n dX4_beside_40 rfl ?_
    refine zz_aload_n dX4_beside_41 rfl ?_
    refine zz_get (ci := 4) (j := 3) zz_inX4 rfl zw_f_X4_27 rfl (by decide) dX4_beside_42 (by omega) px_x rfl ?_
    refine zz_callV0 (ci := 1) (c_rowInto (show r < 8 by omega) (show i < 80 by omega) (p := 33) (by omega)) dX4_beside_45 zw_m_X4_73 wYX1_rowInto wDX1_rowInto rfl (by omega) (px_rel (by omega)) rfl (Nat.le_of_ble_eq_true rfl) (by decide) rfl ?_
    refine zz_iload dX4_beside_48 rfl ?_
    refine zz_iconst (v := 1) dX4_beside_50 (by decide) ?_
    refine zz_icmp_eq (tgt := 60) dX4_beside_51 (by decide) (fun h => absurd h (by decide)) (fun _ => ?_)
    refine zz_iload dX4_beside_54 rfl ?_
    refine zz_iconst (v := 3) dX4_beside_56 (by decide) ?_
    refine zz_icmp_ne (tgt := 72) dX4_beside_57 (by decide) (fun _ => ?_) (fun h => absurd h (by decide))
    refine zz_iload dX4_beside_72 rfl ?_
    refine zz_if_eq (tgt := 83) dX4_beside_74 (by decide) (fun _ => ?_) (fun h => absurd rfl h)
    refine zz_iconst (v := 1) dX4_beside_83 (by decide) ?_
    refine zz_goto (tgt := 88) dX4_beside_84 (by decide) ?_
    refine zz_istore dX4_beside_88 (by decide) ?_
    refine zz_iload dX4_beside_90 rfl ?_
    refine zz_if_eq (tgt := 106) dX4_beside_92 (by decide) (fun h => absurd h (by decide)) (fun _ => ?_)
    refine zz_aload_n dX4_beside_95 rfl ?_
    refine zz_get (ci := 4) (j := 3) zz_inX4 rfl zw_f_X4_27 rfl (by decide) dX4_beside_96 (by omega) px_x rfl ?_
    refine zz_iload_n dX4_beside_99 rfl ?_
    refine zz_callV1 (ci := 0) (c_leastFrom (by omega) _) dX4_beside_100 zw_m_X4_158 wYX0_leastFrom wDX0_leastFrom rfl (by omega) (px_bit (by omega)) rfl (Nat.le_of_ble_eq_true rfl) (by decide) rfl ?_
    refine zz_goto (tgt := 114) dX4_beside_103 (by decide) ?_
    refine zz_iret dX4_beside_114 rfl ?_
    simp only [up_at, up_up]
    exact ⟨_, upS_c (ls_ups hn (cI_R hI hr i hi) hp) (fun k hk => by cases R r i k <;> rfl), xQ_i rfl (cI_s hI (up_ne _ _ (by omega)) (up_ne _ _ (by omega)))⟩
  · refine zz_start wPX4_beside rfl rfl (Nat.le_of_ble_eq_true rfl) ?_
    refine zz_aload_n dX4_beside_0 rfl ?_
    refine zz_iload_n dX4_beside_1 rfl ?_
    refine zz_callV1 (ci := 4) (x_ra_v hr) dX4_beside_2 zw_m_X4_55 wYX4_relationAt wDX4_relationAt rfl (by omega) px_x rfl (Nat.le_of_ble_eq_true rfl) (by decide) rfl ?_
    refine zz_astore dX4_beside_5 (by decide) ?_
    refine zz_aload_n dX4_beside_7 rfl ?_
    refine zz_iload_n dX4_beside_8 rfl ?_
    refine zz_callV0 (ci := 4) (x_ce_v hi hn) dX4_beside_9 zw_m_X4_66 wYX4_checkElement wDX4_checkElement rfl (by omega) px_x rfl (Nat.le_of_ble_eq_true rfl) (by decide) rfl ?_
    refine zz_aload_n dX4_beside_12 rfl ?_
    refine zz_iload_n dX4_beside_13 rfl ?_
    refine zz_callV0 (ci := 4) (x_ce_v hp hn) dX4_beside_14 zw_m_X4_66 wYX4_checkElement wDX4_checkElement rfl (by omega) px_x rfl (Nat.le_of_ble_eq_true rfl) (by decide) rfl ?_
    refine zz_iload dX4_beside_17 rfl ?_
    refine zz_if_lt (tgt := 28) dX4_beside_19 (by decide) (fun h => absurd h (by decide)) (fun _ => ?_)
    refine zz_iload dX4_beside_22 rfl ?_
    refine zz_iconst (v := 3) dX4_beside_24 (by decide) ?_
    refine zz_icmp_le (tgt := 38) dX4_beside_25 (by decide) (fun _ => ?_) (fun h => absurd (by decide) h)
    refine zz_aload dX4_beside_38 rfl ?_
    refine zz_iload_n dX4_beside_40 rfl ?_
    refine zz_aload_n dX4_beside_41 rfl ?_
    refine zz_get (ci := 4) (j := 3) zz_inX4 rfl zw_f_X4_27 rfl (by decide) dX4_beside_42 (by omega) px_x rfl ?_
    refine zz_callV0 (ci := 1) (c_rowInto (show r < 8 by omega) (show i < 80 by omega) (p := 33) (by omega)) dX4_beside_45 zw_m_X4_73 wYX1_rowInto wDX1_rowInto rfl (by omega) (px_rel (by omega)) rfl (Nat.le_of_ble_eq_true rfl) (by decide) rfl ?_
    refine zz_iload dX4_beside_48 rfl ?_
    refine zz_iconst (v := 1) dX4_beside_50 (by decide) ?_
    refine zz_icmp_eq (tgt := 60) dX4_beside_51 (by decide) (fun _ => ?_) (fun h => absurd rfl h)
    refine zz_aload_n dX4_beside_60 rfl ?_
    refine zz_get (ci := 4) (j := 3) zz_inX4 rfl zw_f_X4_27 rfl (by decide) dX4_beside_61 (by omega) px_x rfl ?_
    refine zz_iconst (v := 0) dX4_beside_64 (by decide) ?_
    refine zz_aload_n dX4_beside_65 rfl ?_
    refine zz_get (ci := 4) (j := 0) zz_inX4 rfl zw_f_X4_9 rfl (by decide) dX4_beside_66 (by omega) px_x rfl ?_
    refine zz_callV0 (ci := 0) (c_invert (by omega) _ _) dX4_beside_69 zw_m_X4_92 wYX0_invert wDX0_invert rfl (by omega) (px_bit (by omega)) rfl (Nat.le_of_ble_eq_true rfl) (by decide) rfl ?_
    refine zz_iload dX4_beside_72 rfl ?_
    refine zz_if_eq (tgt := 83) dX4_beside_74 (by decide) (fun h => absurd h (by decide)) (fun _ => ?_)
    refine zz_iload dX4_beside_77 rfl ?_
    refine zz_iconst (v := 1) dX4_beside_79 (by decide) ?_
    refine zz_icmp_ne (tgt := 87) dX4_beside_80 (by decide) (fun h => absurd rfl h) (fun _ => ?_)
    refine zz_iconst (v := 1) dX4_beside_83 (by decide) ?_
    refine zz_goto (tgt := 88) dX4_beside_84 (by decide) ?_
    refine zz_istore dX4_beside_88 (by decide) ?_
    refine zz_iload dX4_beside_90 rfl ?_
    refine zz_if_eq (tgt := 106) dX4_beside_92 (by decide) (fun h => absurd h (by decide)) (fun _ => ?_)
    refine zz_aload_n dX4_beside_95 rfl ?_
    refine zz_get (ci := 4) (j := 3) zz_inX4 rfl zw_f_X4_27 rfl (by decide) dX4_beside_96 (by omega) px_x rfl ?_
    refine zz_iload_n dX4_beside_99 rfl ?_
    refine zz_callV1 (ci := 0) (c_leastFrom (by omega) _) dX4_beside_100 zw_m_X4_158 wYX0_leastFrom wDX0_leastFrom rfl (by omega) (px_bit (by omega)) rfl (Nat.le_of_ble_eq_true rfl) (by decide) rfl ?_
    refine zz_goto (tgt := 114) dX4_beside_103 (by decide) ?_
    refine zz_iret dX4_beside_114 rfl ?_
    simp only [up_at, up_up]
    exact ⟨_, upS_c (ls_ups hn (ls_flip (cI_R hI hr i hi) (a := 0) (e := n) (Nat.le_refl n) hn (Nat.zero_le _)) hp) (fun k hk => by unfold flS; rw [if_pos ⟨Nat.zero_le k, hk⟩]; cases R r i k <;> rfl), xQ_i rfl (cI_s hI (up_ne _ _ (by omega)) (up_ne _ _ (by omega)))⟩
  · refine zz_start wPX4_beside rfl rfl (Nat.le_of_ble_eq_true rfl) ?_
    refine zz_aload_n dX4_beside_0 rfl ?_
    refine zz_iload_n dX4_beside_1 rfl ?_
    refine zz_callV1 (ci := 4) (x_ra_v hr) dX4_beside_2 zw_m_X4_55 wYX4_relationAt wDX4_relationAt rfl (by omega) px_x rfl (Nat.le_of_ble_eq_true rfl) (by decide) rfl ?_
    refine zz_astore dX4_beside_5 (by decide) ?_
    refine zz_aload_n dX4_beside_7 rfl ?_
    refine zz_iload_n dX4_beside_8 rfl ?_
    refine zz_callV0 (ci := 4) (x_ce_v hi hn) dX4_beside_9 zw_m_X4_66 wYX4_checkElement wDX4_checkElement rfl (by omega) px_x rfl (Nat.le_of_ble_eq_true rfl) (by decide) rfl ?_
    refine zz_aload_n dX4_beside_12 rfl ?_
    refine zz_iload_n dX4_beside_13 rfl ?_
    refine zz_callV0 (ci := 4) (x_ce_v hp hn) dX4_beside_14 zw_m_X4_66 wYX4_checkElement wDX4_checkElement rfl (by omega) px_x rfl (Nat.le_of_ble_eq_true rfl) (by decide) rfl ?_
    refine zz_iload dX4_beside_17 rfl ?_
    refine zz_if_lt (tgt := 28) dX4_beside_19 (by decide) (fun h => absurd h (by decide)) (fun _ => ?_)
    refine zz_iload dX4_beside_22 rfl ?_
    refine zz_iconst (v := 3) dX4_beside_24 (by decide) ?_
    refine zz_icmp_le (tgt := 38) dX4_beside_25 (by decide) (fun _ => ?_) (fun h => absurd (by decide) h)
    refine zz_aload dX4_beside_38 rfl ?_
    refine zz_iload_n dX4_beside_40 rfl ?_
    refine zz_aload_n dX4_beside_41 rfl ?_
    refine zz_get (ci := 4) (j := 3) zz_inX4 rfl zw_f_X4_27 rfl (by decide) dX4_beside_42 (by omega) px_x rfl ?_
    refine zz_callV0 (ci := 1) (c_rowInto (show r < 8 by omega) (show i < 80 by omega) (p := 33) (by omega)) dX4_beside_45 zw_m_X4_73 wYX1_rowInto wDX1_rowInto rfl (by omega) (px_rel (by omega)) rfl (Nat.le_of_ble_eq_true rfl) (by decide) rfl ?_
    refine zz_iload dX4_beside_48 rfl ?_
    refine zz_iconst (v := 1) dX4_beside_50 (by decide) ?_
    refine zz_icmp_eq (tgt := 60) dX4_beside_51 (by decide) (fun h => absurd h (by decide)) (fun _ => ?_)
    refine zz_iload dX4_beside_54 rfl ?_
    refine zz_iconst (v := 3) dX4_beside_56 (by decide) ?_
    refine zz_icmp_ne (tgt := 72) dX4_beside_57 (by decide) (fun _ => ?_) (fun h => absurd h (by decide))
    refine zz_iload dX4_beside_72 rfl ?_
    refine zz_if_eq (tgt := 83) dX4_beside_74 (by decide) (fun h => absurd h (by decide)) (fun _ => ?_)
    refine zz_iload dX4_beside_77 rfl ?_
    refine zz_iconst (v := 1) dX4_beside_79 (by decide) ?_
    refine zz_icmp_ne (tgt := 87) dX4_beside_80 (by decide) (fun _ => ?_) (fun h => absurd h (by decide))
    refine zz_iconst (v := 0) dX4_beside_87 (by decide) ?_
    refine zz_istore dX4_beside_88 (by decide) ?_
    refine zz_iload dX4_beside_90 rfl ?_
    refine zz_if_eq (tgt := 106) dX4_beside_92 (by decide) (fun _ => ?_) (fun h => absurd rfl h)
    refine zz_aload_n dX4_beside_106 rfl ?_
    refine zz_get (ci := 4) (j := 3) zz_inX4 rfl zw_f_X4_27 rfl (by decide) dX4_beside_107 (by omega) px_x rfl ?_
    refine zz_iload_n dX4_beside_110 rfl ?_
    refine zz_callV1 (ci := 0) (c_greatestTo (by omega) p (by omega)) dX4_beside_111 zw_m_X4_161 wYX0_greatestTo wDX0_greatestTo rfl (by omega) (px_bit (by omega)) rfl (Nat.le_of_ble_eq_true rfl) (by decide) rfl ?_
    refine zz_iret dX4_beside_114 rfl ?_
    simp only [up_at, up_up]
    exact ⟨_, dnS_c hp (ls_dns hn (cI_R hI hr i hi) hp) (fun k hk => by cases R r i k <;> rfl), xQ_i rfl (cI_s hI (up_ne _ _ (by omega)) (up_ne _ _ (by omega)))⟩
  · refine zz_start wPX4_beside rfl rfl (Nat.le_of_ble_eq_true rfl) ?_
    refine zz_aload_n dX4_beside_0 rfl ?_
    refine zz_iload_n dX4_beside_1 rfl ?_
    refine zz_callV1 (ci := 4) (x_ra_v hr) dX4_beside_2 zw_m_X4_55 wYX4_relationAt wDX4_relationAt rfl (by omega) px_x rfl (Nat.le_of_ble_eq_true rfl) (by decide) rfl ?_
    refine zz_astore dX4_beside_5 (by decide) ?_
    refine zz_aload_n dX4_beside_7 rfl ?_
    refine zz_iload_n dX4_beside_8 rfl ?_
    refine zz_callV0 (ci := 4) (x_ce_v hi hn) dX4_beside_9 zw_m_X4_66 wYX4_checkElement wDX4_checkElement rfl (by omega) px_x rfl (Nat.le_of_ble_eq_true rfl) (by decide) rfl ?_
    refine zz_aload_n dX4_beside_12 rfl ?_
    refine zz_iload_n dX4_beside_13 rfl ?_
    refine zz_callV0 (ci := 4) (x_ce_v hp hn) dX4_beside_14 zw_m_X4_66 wYX4_checkElement wDX4_checkElement rfl (by omega) px_x rfl (Nat.le_of_ble_eq_true rfl) (by decide) rfl ?_
    refine zz_iload dX4_beside_17 rfl ?_
    refine zz_if_lt (tgt := 28) dX4_beside_19 (by decide) (fun h => absurd h (by decide)) (fun _ => ?_)
    refine zz_iload dX4_beside_22 rfl ?_
    refine zz_iconst (v := 3) dX4_beside_24 (by decide) ?_
    refine zz_icmp_le (tgt := 38) dX4_beside_25 (by decide) (fun _ => ?_) (fun h => absurd (by decide) h)
    refine zz_aload dX4_beside_38 rfl ?_
    refine zz_iload_n dX4_beside_40 rfl ?_
    refine zz_aload_n dX4_beside_41 rfl ?_
    refine zz_get (ci := 4) (j := 3) zz_inX4 rfl zw_f_X4_27 rfl (by decide) dX4_beside_42 (by omega) px_x rfl ?_
    refine zz_callV0 (ci := 1) (c_rowInto (show r < 8 by omega) (show i < 80 by omega) (p := 33) (by omega)) dX4_beside_45 zw_m_X4_73 wYX1_rowInto wDX1_rowInto rfl (by omega) (px_rel (by omega)) rfl (Nat.le_of_ble_eq_true rfl) (by decide) rfl ?_
    refine zz_iload dX4_beside_48 rfl ?_
    refine zz_iconst (v := 1) dX4_beside_50 (by decide) ?_
    refine zz_icmp_eq (tgt := 60) dX4_beside_51 (by decide) (fun h => absurd h (by decide)) (fun _ => ?_)
    refine zz_iload dX4_beside_54 rfl ?_
    refine zz_iconst (v := 3) dX4_beside_56 (by decide) ?_
    refine zz_icmp_ne (tgt := 72) dX4_beside_57 (by decide) (fun h => absurd rfl h) (fun _ => ?_)
    refine zz_aload_n dX4_beside_60 rfl ?_
    refine zz_get (ci := 4) (j := 3) zz_inX4 rfl zw_f_X4_27 rfl (by decide) dX4_beside_61 (by omega) px_x rfl ?_
    refine zz_iconst (v := 0) dX4_beside_64 (by decide) ?_
    refine zz_aload_n dX4_beside_65 rfl ?_
    refine zz_get (ci := 4) (j := 0) zz_inX4 rfl zw_f_X4_9 rfl (by decide) dX4_beside_66 (by omega) px_x rfl ?_
    refine zz_callV0 (ci := 0) (c_invert (by omega) _ _) dX4_beside_69 zw_m_X4_92 wYX0_invert wDX0_invert rfl (by omega) (px_bit (by omega)) rfl (Nat.le_of_ble_eq_true rfl) (by decide) rfl ?_
    refine zz_iload dX4_beside_72 rfl ?_
    refine zz_if_eq (tgt := 83) dX4_beside_74 (by decide) (fun h => absurd h (by decide)) (fun _ => ?_)
    refine zz_iload dX4_beside_77 rfl ?_
    refine zz_iconst (v := 1) dX4_beside_79 (by decide) ?_
    refine zz_icmp_ne (tgt := 87) dX4_beside_80 (by decide) (fun _ => ?_) (fun h => absurd h (by decide))
    refine zz_iconst (v := 0) dX4_beside_87 (by decide) ?_
    refine zz_istore dX4_beside_88 (by decide) ?_
    refine zz_iload dX4_beside_90 rfl ?_
    refine zz_if_eq (tgt := 106) dX4_beside_92 (by decide) (fun _ => ?_) (fun h => absurd rfl h)
    refine zz_aload_n dX4_beside_106 rfl ?_
    refine zz_get (ci := 4) (j := 3) zz_inX4 rfl zw_f_X4_27 rfl (by decide) dX4_beside_107 (by omega) px_x rfl ?_
    refine zz_iload_n dX4_beside_110 rfl ?_
    refine zz_callV1 (ci := 0) (c_greatestTo (by omega) p (by omega)) dX4_beside_111 zw_m_X4_161 wYX0_greatestTo wDX0_greatestTo rfl (by omega) (px_bit (by omega)) rfl (Nat.le_of_ble_eq_true rfl) (by decide) rfl ?_
    refine zz_iret dX4_beside_114 rfl ?_
    simp only [up_at, up_up]
    exact ⟨_, dnS_c hp (ls_dns hn (ls_flip (cI_R hI hr i hi) (a := 0) (e := n) (Nat.le_refl n) hn (Nat.zero_le _)) hp) (fun k hk => by unfold flS; rw [if_pos ⟨Nat.zero_le k, hk⟩]; cases R r i k <;> rfl), xQ_i rfl (cI_s hI (up_ne _ _ (by omega)) (up_ne _ _ (by omega)))⟩
set_option maxHeartbeats 1000000 in
set_option maxRecDepth 20000 in
theorem x_beside_1 {v : Int32} (h : isR v = false) (w u z : Int32) : zz_C mX4_beside 7 1 6 [.ref 52, .int v, .int w, .int u, .int z] (px El Lo Hi BL BH Od Ls (nI n) T) (fun o τ => o = .inr "java/lang/IndexOutOfBoundsException" ∧ τ = px El Lo Hi BL BH Od Ls (nI n) T) := by
  · refine zz_start wPX4_beside rfl rfl (Nat.le_of_ble_eq_true rfl) ?_
    refine zz_aload_n dX4_beside_0 rfl ?_
    refine zz_iload_n dX4_beside_1 rfl ?_
    refine zz_callV (ci := 4) (x_ra_x h) dX4_beside_2 zw_m_X4_55 wYX4_relationAt wDX4_relationAt rfl (by omega) px_x rfl (Nat.le_of_ble_eq_true rfl) (by decide) (by omega) (by omega) rfl (fun v9 τ9 h9 => by cases h9.1) (fun E9 τ9 h9 => ?_)
    obtain ⟨h91, rfl⟩ := h9
    cases h91
    exact ⟨rfl, rfl⟩
set_option maxHeartbeats 1000000 in
set_option maxRecDepth 20000 in
theorem x_beside_2 {r : Nat} (hr : r < 4) (hn : n ≤ 80) {w : Int32} (h : isE n w = false) (u z : Int32) : zz_C mX4_beside 7 1 6 [.ref 52, .int (nI r), .int w, .int u, .int z] (px El Lo Hi BL BH Od Ls (nI n) T) (fun o τ => o = .inr "java/lang/IndexOutOfBoundsException" ∧ τ = px El Lo Hi BL BH Od Ls (nI n) T) := by
  · refine zz_start wPX4_beside rfl rfl (Nat.le_of_ble_eq_true rfl) ?_
    refine zz_aload_n dX4_beside_0 rfl ?_
    refine zz_iload_n dX4_beside_1 rfl ?_
    refine zz_callV1 (ci := 4) (x_ra_v hr) dX4_beside_2 zw_m_X4_55 wYX4_relationAt wDX4_relationAt rfl (by omega) px_x rfl (Nat.le_of_ble_eq_true rfl) (by decide) rfl ?_
    refine zz_astore dX4_beside_5 (by decide) ?_
    refine zz_aload_n dX4_beside_7 rfl ?_
    refine zz_iload_n dX4_beside_8 rfl ?_
    refine zz_callV (ci := 4) (x_ce_x hn h) dX4_beside_9 zw_m_X4_66 wYX4_checkElement wDX4_checkElement rfl (by omega) px_x rfl (Nat.le_of_ble_eq_true rfl) (by decide) (by omega) (by omega) rfl (fun v9 τ9 h9 => by cases h9.1) (fun E9 τ9 h9 => ?_)
    obtain ⟨h91, rfl⟩ := h9
    cases h91
    exact ⟨rfl, rfl⟩
set_option maxHeartbeats 1000000 in
set_option maxRecDepth 20000 in
theorem x_beside_3 {r i : Nat} (hr : r < 4) (hi : i < n) (hn : n ≤ 80) {u : Int32} (h : isE n u = false) (z : Int32) : zz_C mX4_beside 7 1 6 [.ref 52, .int (nI r), .int (nI i), .int u, .int z] (px El Lo Hi BL BH Od Ls (nI n) T) (fun o τ => o = .inr "java/lang/IndexOutOfBoundsException" ∧ τ = px El Lo Hi BL BH Od Ls (nI n) T) := by
  · refine zz_start wPX4_beside rfl rfl (Nat.le_of_ble_eq_true rfl) ?_
    refine zz_aload_n dX4_beside_0 rfl ?_
    refine zz_iload_n dX4_beside_1 rfl ?_
    refine zz_callV1 (ci := 4) (x_ra_v hr) dX4_beside_2 zw_m_X4_55 wYX4_relationAt wDX4_relationAt rfl (by omega) px_x rfl (Nat.le_of_ble_eq_true rfl) (by decide) rfl ?_
    refine zz_astore dX4_beside_5 (by decide) ?_
    refine zz_aload_n dX4_beside_7 rfl ?_
    refine zz_iload_n dX4_beside_8 rfl ?_
    refine zz_callV0 (ci := 4) (x_ce_v hi hn) dX4_beside_9 zw_m_X4_66 wYX4_checkElement wDX4_checkElement rfl (by omega) px_x rfl (Nat.le_of_ble_eq_true rfl) (by decide) rfl ?_
    refine zz_aload_n dX4_beside_12 rfl ?_
    refine zz_iload_n dX4_beside_13 rfl ?_
    refine zz_callV (ci := 4) (x_ce_x hn h) dX4_beside_14 zw_m_X4_66 wYX4_checkElement wDX4_checkElement rfl (by omega) px_x rfl (Nat.le_of_ble_eq_true rfl) (by decide) (by omega) (by omega) rfl (fun v9 τ9 h9 => by cases h9.1) (fun E9 τ9 h9 => ?_)
    obtain ⟨h91, rfl⟩ := h9
    cases h91
    exact ⟨rfl, rfl⟩
set_option maxHeartbeats 1000000 in
set_option maxRecDepth 20000 in
theorem x_beside_4 {r i p : Nat} (hr : r < 4) (hi : i < n) (hp : p < n) (hn : n ≤ 80) {z : Int32} (h : isR z = false) : zz_C mX4_beside 7 1 6 [.ref 52, .int (nI r), .int (nI i), .int (nI p), .int z] (px El Lo Hi BL BH Od Ls (nI n) T) (fun o τ => o = .inr "java/lang/IllegalArgumentException" ∧ τ = px El Lo Hi BL BH Od Ls (nI n) T) := by
  rcases isR_x3 h with h1 | ⟨h1, h2⟩
  · refine zz_start wPX4_beside rfl rfl (Nat.le_of_ble_eq_true rfl) ?_
    refine zz_aload_n dX4_beside_0 rfl ?_
    refine zz_iload_n dX4_beside_1 rfl ?_
    refine zz_callV1 (ci := 4) (x_ra_v hr) dX4_beside_2 zw_m_X4_55 wYX4_relationAt wDX4_relationAt rfl (by omega) px_x rfl (Nat.le_of_ble_eq_true rfl) (by decide) rfl ?_
    refine zz_astore dX4_beside_5 (by decide) ?_
    refine zz_aload_n dX4_beside_7 rfl ?_
    refine zz_iload_n dX4_beside_8 rfl ?_
    refine zz_callV0 (ci := 4) (x_ce_v hi hn) dX4_beside_9 zw_m_X4_66 wYX4_checkElement wDX4_checkElement rfl (by omega) px_x rfl (Nat.le_of_ble_eq_true rfl) (by decide) rfl ?_
    refine zz_aload_n dX4_beside_12 rfl ?_
    refine zz_iload_n dX4_beside_13 rfl ?_
    refine zz_callV0 (ci := 4) (x_ce_v hp hn) dX4_beside_14 zw_m_X4_66 wYX4_checkElement wDX4_checkElement rfl (by omega) px_x rfl (Nat.le_of_ble_eq_true rfl) (by decide) rfl ?_
    refine zz_iload dX4_beside_17 rfl ?_
    refine zz_if_lt (tgt := 28) dX4_beside_19 (by decide) (fun _ => ?_) (fun q => absurd h1 q)
    refine zz_throw (cls := "java/lang/IllegalArgumentException") (text := "how is out of range") (by decide +kernel) rfl rfl (by decide +kernel) zw_l_X4_48 zw_n_java_lang_IllegalArgumentException zz_at_iae zz_bd_iae (by decide +kernel) dX4_beside_28 dX4_beside_31 dX4_beside_32 dX4_beside_34 dX4_beside_37 (by omega) (by omega) (by omega) (Nat.le_of_ble_eq_true rfl) ?_
    exact ⟨rfl, rfl⟩
  · refine zz_start wPX4_beside rfl rfl (Nat.le_of_ble_eq_true rfl) ?_
    refine zz_aload_n dX4_beside_0 rfl ?_
    refine zz_iload_n dX4_beside_1 rfl ?_
    refine zz_callV1 (ci := 4) (x_ra_v hr) dX4_beside_2 zw_m_X4_55 wYX4_relationAt wDX4_relationAt rfl (by omega) px_x rfl (Nat.le_of_ble_eq_true rfl) (by decide) rfl ?_
    refine zz_astore dX4_beside_5 (by decide) ?_
    refine zz_aload_n dX4_beside_7 rfl ?_
    refine zz_iload_n dX4_beside_8 rfl ?_
    refine zz_callV0 (ci := 4) (x_ce_v hi hn) dX4_beside_9 zw_m_X4_66 wYX4_checkElement wDX4_checkElement rfl (by omega) px_x rfl (Nat.le_of_ble_eq_true rfl) (by decide) rfl ?_
    refine zz_aload_n dX4_beside_12 rfl ?_
    refine zz_iload_n dX4_beside_13 rfl ?_
    refine zz_callV0 (ci := 4) (x_ce_v hp hn) dX4_beside_14 zw_m_X4_66 wYX4_checkElement wDX4_checkElement rfl (by omega) px_x rfl (Nat.le_of_ble_eq_true rfl) (by decide) rfl ?_
    refine zz_iload dX4_beside_17 rfl ?_
    refine zz_if_lt (tgt := 28) dX4_beside_19 (by decide) (fun q => absurd q h1) (fun _ => ?_)
    refine zz_iload dX4_beside_22 rfl ?_
    refine zz_iconst (v := 3) dX4_beside_24 (by decide) ?_
    refine zz_icmp_le (tgt := 38) dX4_beside_25 (by decide) (fun q => absurd q h2) (fun _ => ?_)
    refine zz_throw (cls := "java/lang/IllegalArgumentException") (text := "how is out of range") (by decide +kernel) rfl rfl (by decide +kernel) zw_l_X4_48 zw_n_java_lang_IllegalArgumentException zz_at_iae zz_bd_iae (by decide +kernel) dX4_beside_28 dX4_beside_31 dX4_beside_32 dX4_beside_34 dX4_beside_37 (by omega) (by omega) (by omega) (Nat.le_of_ble_eq_true rfl) ?_
    exact ⟨rfl, rfl⟩
set_option maxHeartbeats 1000000 in
set_option maxRecDepth 20000 in
theorem x_wordOf_v {r i w : Nat} (hr : r < 4) (hi : i < n) (hw : w < 2) (hI : cI n El Lo Hi BL BH R mk) : zz_C mX4_wordOf 7 1 6 [.ref 52, .int (nI r), .int (nI i), .int (nI w)] (px El Lo Hi BL BH Od Ls (nI n) T) (xQ n R mk T (.inl (some (.long (wrd (fun k => decide (64 * w + k < n) && R r i (64 * w + k)) 64))))) := by
  have hn := cI_n hI
  rcases (show w = 0 ∨ w = 1 by omega) with rfl | rfl
  · have e9 := ls_wrd (cI_R hI hr i hi) (w := 0) (by omega)
    rw [if_pos rfl] at e9
    refine zz_start wPX4_wordOf rfl rfl (Nat.le_of_ble_eq_true rfl) ?_
    refine zz_aload_n dX4_wordOf_0 rfl ?_
    refine zz_iload_n dX4_wordOf_1 rfl ?_
    refine zz_callV1 (ci := 4) (x_ra_v hr) dX4_wordOf_2 zw_m_X4_55 wYX4_relationAt wDX4_relationAt rfl (by omega) px_x rfl (Nat.le_of_ble_eq_true rfl) (by decide) rfl ?_
    refine zz_astore dX4_wordOf_5 (by decide) ?_
    refine zz_aload_n dX4_wordOf_7 rfl ?_
    refine zz_iload_n dX4_wordOf_8 rfl ?_
    refine zz_callV0 (ci := 4) (x_ce_v hi hn) dX4_wordOf_9 zw_m_X4_66 wYX4_checkElement wDX4_checkElement rfl (by omega) px_x rfl (Nat.le_of_ble_eq_true rfl) (by decide) rfl ?_
    refine zz_iload_n dX4_wordOf_12 rfl ?_
    refine zz_if_lt (tgt := 21) dX4_wordOf_13 (by decide) (fun h => absurd h (by decide)) (fun _ => ?_)
    refine zz_iload_n dX4_wordOf_16 rfl ?_
    refine zz_iconst (v := 1) dX4_wordOf_17 (by decide) ?_
    refine zz_icmp_le (tgt := 31) dX4_wordOf_18 (by decide) (fun _ => ?_) (fun h => absurd (by decide) h)
    refine zz_iload_n dX4_wordOf_31 rfl ?_
    refine zz_if_ne (tgt := 44) dX4_wordOf_32 (by decide) (fun h => absurd h (by decide)) (fun _ => ?_)
    refine zz_aload dX4_wordOf_35 rfl ?_
    refine zz_iload_n dX4_wordOf_37 rfl ?_
    refine zz_callV1 (ci := 1) (c_lowAt (show r < 8 by omega) (show i < 80 by omega)) dX4_wordOf_38 zw_m_X4_166 wYX1_lowAt wDX1_lowAt rfl (by omega) (px_rel (by omega)) rfl (Nat.le_of_ble_eq_true rfl) (by decide) rfl ?_
    refine zz_goto (tgt := 50) dX4_wordOf_41 (by decide) ?_
    refine zz_lret dX4_wordOf_50 rfl ?_
    exact xQ_i (by rw [e9]) hI
  · have e9 := ls_wrd (cI_R hI hr i hi) (w := 1) (by omega)
    rw [if_neg (by decide)] at e9
    refine zz_start wPX4_wordOf rfl rfl (Nat.le_of_ble_eq_true rfl) ?_
    refine zz_aload_n dX4_wordOf_0 rfl ?_
    refine zz_iload_n dX4_wordOf_1 rfl ?_
    refine zz_callV1 (ci := 4) (x_ra_v hr) dX4_wordOf_2 zw_m_X4_55 wYX4_relationAt wDX4_relationAt rfl (by omega) px_x rfl (Nat.le_of_ble_eq_true rfl) (by decide) rfl ?_
    refine zz_astore dX4_wordOf_5 (by decide) ?_
    refine zz_aload_n dX4_wordOf_7 rfl ?_
    refine zz_iload_n dX4_wordOf_8 rfl ?_
    refine zz_callV0 (ci := 4) (x_ce_v hi hn) dX4_wordOf_9 zw_m_X4_66 wYX4_checkElement wDX4_checkElement rfl (by omega) px_x rfl (Nat.le_of_ble_eq_true rfl) (by decide) rfl ?_
    refine zz_iload_n dX4_wordOf_12 rfl ?_
    refine zz_if_lt (tgt := 21) dX4_wordOf_13 (by decide) (fun h => absurd h (by decide)) (fun _ => ?_)
    refine zz_iload_n dX4_wordOf_16 rfl ?_
    refine zz_iconst (v := 1) dX4_wordOf_17 (by decide) ?_
    refine zz_icmp_le (tgt := 31) dX4_wordOf_18 (by decide) (fun _ => ?_) (fun h => absurd (by decide) h)
    refine zz_iload_n dX4_wordOf_31 rfl ?_
    refine zz_if_ne (tgt := 44) dX4_wordOf_32 (by decide) (fun _ => ?_) (fun h => absurd h (by decide))
    refine zz_aload dX4_wordOf_44 rfl ?_
    refine zz_iload_n dX4_wordOf_46 rfl ?_
    refine zz_callV1 (ci := 1) (c_highAt (show r < 8 by omega) (show i < 80 by omega)) dX4_wordOf_47 zw_m_X4_170 wYX1_highAt wDX1_highAt rfl (by omega) (px_rel (by omega)) rfl (Nat.le_of_ble_eq_true rfl) (by decide) rfl ?_
    refine zz_lret dX4_wordOf_50 rfl ?_
    exact xQ_i (by rw [e9]) hI
set_option maxHeartbeats 1000000 in
set_option maxRecDepth 20000 in
theorem x_wordOf_1 {v : Int32} (h : isR v = false) (w z : Int32) : zz_C mX4_wordOf 7 1 6 [.ref 52, .int v, .int w, .int z] (px El Lo Hi BL BH Od Ls (nI n) T) (fun o τ => o = .inr "java/lang/IndexOutOfBoundsException" ∧ τ = px El Lo Hi BL BH Od Ls (nI n) T) := by
  · refine zz_start wPX4_wordOf rfl rfl (Nat.le_of_ble_eq_true rfl) ?_
    refine zz_aload_n dX4_wordOf_0 rfl ?_
    refine zz_iload_n dX4_wordOf_1 rfl ?_
    refine zz_callV (ci := 4) (x_ra_x h) dX4_wordOf_2 zw_m_X4_55 wYX4_relationAt wDX4_relationAt rfl (by omega) px_x rfl (Nat.le_of_ble_eq_true rfl) (by decide) (by omega) (by omega) rfl (fun v9 τ9 h9 => by cases h9.1) (fun E9 τ9 h9 => ?_)
    obtain ⟨h91, rfl⟩ := h9
    cases h91
    exact ⟨rfl, rfl⟩
set_option maxHeartbeats 1000000 in
set_option maxRecDepth 20000 in
theorem x_wordOf_2 {r : Nat} (hr : r < 4) (hn : n ≤ 80) {w : Int32} (h : isE n w = false) (z : Int32) : zz_C mX4_wordOf 7 1 6 [.ref 52, .int (nI r), .int w, .int z] (px El Lo Hi BL BH Od Ls (nI n) T) (fun o τ => o = .inr "java/lang/IndexOutOfBoundsException" ∧ τ = px El Lo Hi BL BH Od Ls (nI n) T) := by
  · refine zz_start wPX4_wordOf rfl rfl (Nat.le_of_ble_eq_true rfl) ?_
    refine zz_aload_n dX4_wordOf_0 rfl ?_
    refine zz_iload_n dX4_wordOf_1 rfl ?_
    refine zz_callV1 (ci := 4) (x_ra_v hr) dX4_wordOf_2 zw_m_X4_55 wYX4_relationAt wDX4_relationAt rfl (by omega) px_x rfl (Nat.le_of_ble_eq_true rfl) (by decide) rfl ?_
    refine zz_astore dX4_wordOf_5 (by decide) ?_
    refine zz_aload_n dX4_wordOf_7 rfl ?_
    refine zz_iload_n dX4_wordOf_8 rfl ?_
    refine zz_callV (ci := 4) (x_ce_x hn h) dX4_wordOf_9 zw_m_X4_66 wYX4_checkElement wDX4_checkElement rfl (by omega) px_x rfl (Nat.le_of_ble_eq_true rfl) (by decide) (by omega) (by omega) rfl (fun v9 τ9 h9 => by cases h9.1) (fun E9 τ9 h9 => ?_)
    obtain ⟨h91, rfl⟩ := h9
    cases h91
    exact ⟨rfl, rfl⟩
set_option maxHeartbeats 1000000 in
set_option maxRecDepth 20000 in
theorem x_wordOf_3 {r i : Nat} (hr : r < 4) (hi : i < n) (hn : n ≤ 80) {z : Int32} (h : isW z = false) : zz_C mX4_wordOf 7 1 6 [.ref 52, .int (nI r), .int (nI i), .int z] (px El Lo Hi BL BH Od Ls (nI n) T) (fun o τ => o = .inr "java/lang/IllegalArgumentException" ∧ τ = px El Lo Hi BL BH Od Ls (nI n) T) := by
  rcases isW_x h with h1 | ⟨h1, h2⟩
  · refine zz_start wPX4_wordOf rfl rfl (Nat.le_of_ble_eq_true rfl) ?_
    refine zz_aload_n dX4_wordOf_0 rfl ?_
    refine zz_iload_n dX4_wordOf_1 rfl ?_
    refine zz_callV1 (ci := 4) (x_ra_v hr) dX4_wordOf_2 zw_m_X4_55 wYX4_relationAt wDX4_relationAt rfl (by omega) px_x rfl (Nat.le_of_ble_eq_true rfl) (by decide) rfl ?_
    refine zz_astore dX4_wordOf_5 (by decide) ?_
    refine zz_aload_n dX4_wordOf_7 rfl ?_
    refine zz_iload_n dX4_wordOf_8 rfl ?_
    refine zz_callV0 (ci := 4) (x_ce_v hi hn) dX4_wordOf_9 zw_m_X4_66 wYX4_checkElement wDX4_checkElement rfl (by omega) px_x rfl (Nat.le_of_ble_eq_true rfl) (by decide) rfl ?_
    refine zz_iload_n dX4_wordOf_12 rfl ?_
    refine zz_if_lt (tgt := 21) dX4_wordOf_13 (by decide) (fun _ => ?_) (fun q => absurd h1 q)
    refine zz_throw (cls := "java/lang/IllegalArgumentException") (text := "word is out of range") (by decide +kernel) rfl rfl (by decide +kernel) zw_l_X4_48 zw_n_java_lang_IllegalArgumentException zz_at_iae zz_bd_iae (by decide +kernel) dX4_wordOf_21 dX4_wordOf_24 dX4_wordOf_25 dX4_wordOf_27 dX4_wordOf_30 (by omega) (by omega) (by omega) (Nat.le_of_ble_eq_true rfl) ?_
    exact ⟨rfl, rfl⟩
  · refine zz_start wPX4_wordOf rfl rfl (Nat.le_of_ble_eq_true rfl) ?_
    refine zz_aload_n dX4_wordOf_0 rfl ?_
    refine zz_iload_n dX4_wordOf_1 rfl ?_
    refine zz_callV1 (ci := 4) (x_ra_v hr) dX4_wordOf_2 zw_m_X4_55 wYX4_relationAt wDX4_relationAt rfl (by omega) px_x rfl (Nat.le_of_ble_eq_true rfl) (by decide) rfl ?_
    refine zz_astore dX4_wordOf_5 (by decide) ?_
    refine zz_aload_n dX4_wordOf_7 rfl ?_
    refine zz_iload_n dX4_wordOf_8 rfl ?_
    refine zz_callV0 (ci := 4) (x_ce_v hi hn) dX4_wordOf_9 zw_m_X4_66 wYX4_checkElement wDX4_checkElement rfl (by omega) px_x rfl (Nat.le_of_ble_eq_true rfl) (by decide) rfl ?_
    refine zz_iload_n dX4_wordOf_12 rfl ?_
    refine zz_if_lt (tgt := 21) dX4_wordOf_13 (by decide) (fun q => absurd q h1) (fun _ => ?_)
    refine zz_iload_n dX4_wordOf_16 rfl ?_
    refine zz_iconst (v := 1) dX4_wordOf_17 (by decide) ?_
    refine zz_icmp_le (tgt := 31) dX4_wordOf_18 (by decide) (fun q => absurd q h2) (fun _ => ?_)
    refine zz_throw (cls := "java/lang/IllegalArgumentException") (text := "word is out of range") (by decide +kernel) rfl rfl (by decide +kernel) zw_l_X4_48 zw_n_java_lang_IllegalArgumentException zz_at_iae zz_bd_iae (by decide +kernel) dX4_wordOf_21 dX4_wordOf_24 dX4_wordOf_25 dX4_wordOf_27 dX4_wordOf_30 (by omega) (by omega) (by omega) (Nat.le_of_ble_eq_true rfl) ?_
    exact ⟨rfl, rfl⟩
theorem ls_meet {n : Nat} {a b c d : Int64} {S S' : Nat → Bool} (hn : n ≤ 80) (h1 : ls a b n S) (h2 : ls c d n S') : (a &&& c = 0 ∧ b &&& d = 0) ↔ anb (fun k => S k && S' k) n = false := by
  rw [tb_z, anb_f]
  have h3 := ls_and h1 h2
  exact ⟨fun h k hk => by rw [← ls_at h3 hn hk]; exact h k (by omega), fun h k hk => by
    by_cases e : k < n
    · rw [ls_at h3 hn e]; exact h k e
    · exact ls_no h3 (by omega)⟩
set_option maxHeartbeats 1000000 in
set_option maxRecDepth 20000 in
theorem x_meet_v {r i w j : Nat} (hr : r < 4) (hi : i < n) (hw : w < 4) (hj : j < n) (hI : cI n El Lo Hi BL BH R mk) : zz_C mX4_meet 7 1 6 [.ref 52, .int (nI r), .int (nI i), .int (nI w), .int (nI j)] (px El Lo Hi BL BH Od Ls (nI n) T) (xQ n R mk T (.inl (some (.int (zB (anb (fun k => R r i k && R w j k) n)))))) := by
  have hn := cI_n hI
  have hm := ls_meet hn (cI_R hI hr i hi) (cI_R hI hw j hj)
  by_cases q1 : Lo r i &&& Lo w j = 0
  by_cases q2 : Hi r i &&& Hi w j = 0
  · refine zz_start wPX4_meet rfl rfl (Nat.le_of_ble_eq_true rfl) ?_
    refine zz_aload_n dX4_meet_0 rfl ?_
    refine zz_iload_n dX4_meet_1 rfl ?_
    refine zz_callV1 (ci := 4) (x_ra_v hr) dX4_meet_2 zw_m_X4_55 wYX4_relationAt wDX4_relationAt rfl (by omega) px_x rfl (Nat.le_of_ble_eq_true rfl) (by decide) rfl ?_
    refine zz_astore dX4_meet_5 (by decide) ?_
    refine zz_aload_n dX4_meet_7 rfl ?_
    refine zz_iload_n dX4_meet_8 rfl ?_
    refine zz_callV0 (ci := 4) (x_ce_v hi hn) dX4_meet_9 zw_m_X4_66 wYX4_checkElement wDX4_checkElement rfl (by omega) px_x rfl (Nat.le_of_ble_eq_true rfl) (by decide) rfl ?_
    refine zz_aload_n dX4_meet_12 rfl ?_
    refine zz_iload_n dX4_meet_13 rfl ?_
    refine zz_callV1 (ci := 4) (x_ra_v hw) dX4_meet_14 zw_m_X4_55 wYX4_relationAt wDX4_relationAt rfl (by omega) px_x rfl (Nat.le_of_ble_eq_true rfl) (by decide) rfl ?_
    refine zz_astore dX4_meet_17 (by decide) ?_
    refine zz_aload_n dX4_meet_19 rfl ?_
    refine zz_iload dX4_meet_20 rfl ?_
    refine zz_callV0 (ci := 4) (x_ce_v hj hn) dX4_meet_22 zw_m_X4_66 wYX4_checkElement wDX4_checkElement rfl (by omega) px_x rfl (Nat.le_of_ble_eq_true rfl) (by decide) rfl ?_
    refine zz_aload dX4_meet_25 rfl ?_
    refine zz_iload_n dX4_meet_27 rfl ?_
    refine zz_aload_n dX4_meet_28 rfl ?_
    refine zz_get (ci := 4) (j := 3) zz_inX4 rfl zw_f_X4_27 rfl (by decide) dX4_meet_29 (by omega) px_x rfl ?_
    refine zz_callV0 (ci := 1) (c_rowInto (show r < 8 by omega) (show i < 80 by omega) (p := 33) (by omega)) dX4_meet_32 zw_m_X4_73 wYX1_rowInto wDX1_rowInto rfl (by omega) (px_rel (by omega)) rfl (Nat.le_of_ble_eq_true rfl) (by decide) rfl ?_
    refine zz_aload_n dX4_meet_35 rfl ?_
    refine zz_get (ci := 4) (j := 3) zz_inX4 rfl zw_f_X4_27 rfl (by decide) dX4_meet_36 (by omega) px_x rfl ?_
    refine zg_bl zw_f_X4_99 dX4_meet_39 (by omega) ?_
    refine zz_aload dX4_meet_42 rfl ?_
    refine zz_iload dX4_meet_44 rfl ?_
    refine zz_callV1 (ci := 1) (c_lowAt (show w < 8 by omega) (show j < 80 by omega)) dX4_meet_46 zw_m_X4_166 wYX1_lowAt wDX1_lowAt rfl (by omega) (px_rel (by omega)) rfl (Nat.le_of_ble_eq_true rfl) (by decide) rfl ?_
    refine zz_land dX4_meet_49 ?_
    refine zz_lconst (v := 0) dX4_meet_50 (by decide) ?_
    refine zz_lcmp dX4_meet_51 ?_
    refine zz_if_ne (tgt := 75) dX4_meet_52 (by decide) (fun h => absurd (cmp_e.mpr q1) h) (fun _ => ?_)
    refine zz_aload_n dX4_meet_55 rfl ?_
    refine zz_get (ci := 4) (j := 3) zz_inX4 rfl zw_f_X4_27 rfl (by decide) dX4_meet_56 (by omega) px_x rfl ?_
    refine zg_bh zw_f_X4_173 dX4_meet_59 (by omega) ?_
    refine zz_aload dX4_meet_62 rfl ?_
    refine zz_iload dX4_meet_64 rfl ?_
    refine zz_callV1 (ci := 1) (c_highAt (show w < 8 by omega) (show j < 80 by omega)) dX4_meet_66 zw_m_X4_170 wYX1_highAt wDX1_highAt rfl (by omega) (px_rel (by omega)) rfl (Nat.le_of_ble_eq_true rfl) (by decide) rfl ?_
    refine zz_land dX4_meet_69 ?_
    refine zz_lconst (v := 0) dX4_meet_70 (by decide) ?_
    refine zz_lcmp dX4_meet_71 ?_
    refine zz_if_eq (tgt := 79) dX4_meet_72 (by decide) (fun _ => ?_) (fun h => absurd (cmp_e.mpr q2) h)
    refine zz_iconst (v := 0) dX4_meet_79 (by decide) ?_
    refine zz_zret dX4_meet_80 rfl (by first | rfl | exact zB_nar _) ?_
    have e9 : anb (fun k => R r i k && R w j k) n = false := by
      exact hm.mp ⟨q1, q2⟩
    exact xQ_i (by rw [e9]; rfl) (cI_s hI (up_ne _ _ (by omega)) (up_ne _ _ (by omega)))
  · refine zz_start wPX4_meet rfl rfl (Nat.le_of_ble_eq_true rfl) ?_
    refine zz_aload_n dX4_meet_0 rfl ?_
    refine zz_iload_n dX4_meet_1 rfl ?_
    refine zz_callV1 (ci := 4) (x_ra_v hr) dX4_meet_2 zw_m_X4_55 wYX4_relationAt wDX4_relationAt rfl (by omega) px_x rfl (Nat.le_of_ble_eq_true rfl) (by decide) rfl ?_
    refine zz_astore dX4_meet_5 (by decide) ?_
    refine zz_aload_n dX4_meet_7 rfl ?_
    refine zz_iload_n dX4_meet_8 rfl ?_
    refine zz_callV0 (ci := 4) (x_ce_v hi hn) dX4_meet_9 zw_m_X4_66 wYX4_checkElement wDX4_checkElement rfl (by omega) px_x rfl (Nat.le_of_ble_eq_true rfl) (by decide) rfl ?_
    refine zz_aload_n dX4_meet_12 rfl ?_
    refine zz_iload_n dX4_meet_13 rfl ?_
    refine zz_callV1 (ci := 4) (x_ra_v hw) dX4_meet_14 zw_m_X4_55 wYX4_relationAt wDX4_relationAt rfl (by omega) px_x rfl (Nat.le_of_ble_eq_true rfl) (by decide) rfl ?_
    refine zz_astore dX4_meet_17 (by decide) ?_
    refine zz_aload_n dX4_meet_19 rfl ?_
    refine zz_iload dX4_meet_20 rfl ?_
    refine zz_callV0 (ci := 4) (x_ce_v hj hn) dX4_meet_22 zw_m_X4_66 wYX4_checkElement wDX4_checkElement rfl (by omega) px_x rfl (Nat.le_of_ble_eq_true rfl) (by decide) rfl ?_
    refine zz_aload dX4_meet_25 rfl ?_
    refine zz_iload_n dX4_meet_27 rfl ?_
    refine zz_aload_n dX4_meet_28 rfl ?_
    refine zz_get (ci := 4) (j := 3) zz_inX4 rfl zw_f_X4_27 rfl (by decide) dX4_meet_29 (by omega) px_x rfl ?_
    refine zz_callV0 (ci := 1) (c_rowInto (show r < 8 by omega) (show i < 80 by omega) (p := 33) (by omega)) dX4_meet_32 zw_m_X4_73 wYX1_rowInto wDX1_rowInto rfl (by omega) (px_rel (by omega)) rfl (Nat.le_of_ble_eq_true rfl) (by decide) rfl ?_
    refine zz_aload_n dX4_meet_35 rfl ?_
    refine zz_get (ci := 4) (j := 3) zz_inX4 rfl zw_f_X4_27 rfl (by decide) dX4_meet_36 (by omega) px_x rfl ?_
    refine zg_bl zw_f_X4_99 dX4_meet_39 (by omega) ?_
    refine zz_aload dX4_meet_42 rfl ?_
    refine zz_iload dX4_meet_44 rfl ?_
    refine zz_callV1 (ci := 1) (c_lowAt (show w < 8 by omega) (show j < 80 by omega)) dX4_meet_46 zw_m_X4_166 wYX1_lowAt wDX1_lowAt rfl (by omega) (px_rel (by omega)) rfl (Nat.le_of_ble_eq_true rfl) (by decide) rfl ?_
    refine zz_land dX4_meet_49 ?_
    refine zz_lconst (v := 0) dX4_meet_50 (by decide) ?_
    refine zz_lcmp dX4_meet_51 ?_
    refine zz_if_ne (tgt := 75) dX4_meet_52 (by decide) (fun h => absurd (cmp_e.mpr q1) h) (fun _ => ?_)
    refine zz_aload_n dX4_meet_55 rfl ?_
    refine zz_get (ci := 4) (j := 3) zz_inX4 rfl zw_f_X4_27 rfl (by decide) dX4_meet_56 (by omega) px_x rfl ?_
    refine zg_bh zw_f_X4_173 dX4_meet_59 (by omega) ?_
    refine zz_aload dX4_meet_62 rfl ?_
    refine zz_iload dX4_meet_64 rfl ?_
    refine zz_callV1 (ci := 1) (c_highAt (show w < 8 by omega) (show j < 80 by omega)) dX4_meet_66 zw_m_X4_170 wYX1_highAt wDX1_highAt rfl (by omega) (px_rel (by omega)) rfl (Nat.le_of_ble_eq_true rfl) (by decide) rfl ?_
    refine zz_land dX4_meet_69 ?_
    refine zz_lconst (v := 0) dX4_meet_70 (by decide) ?_
    refine zz_lcmp dX4_meet_71 ?_
    refine zz_if_eq (tgt := 79) dX4_meet_72 (by decide) (fun h => absurd (cmp_e.mp h) q2) (fun _ => ?_)
    refine zz_iconst (v := 1) dX4_meet_75 (by decide) ?_
    refine zz_goto (tgt := 80) dX4_meet_76 (by decide) ?_
    refine zz_zret dX4_meet_80 rfl (by first | rfl | exact zB_nar _) ?_
    have e9 : anb (fun k => R r i k && R w j k) n = true := by
      cases e : anb (fun k => R r i k && R w j k) n; exact absurd (hm.mpr e).2 q2; rfl
    exact xQ_i (by rw [e9]; rfl) (cI_s hI (up_ne _ _ (by omega)) (up_ne _ _ (by omega)))
  · refine zz_start wPX4_meet rfl rfl (Nat.le_of_ble_eq_true rfl) ?_
    refine zz_aload_n dX4_meet_0 rfl ?_
    refine zz_iload_n dX4_meet_1 rfl ?_
    refine zz_callV1 (ci := 4) (x_ra_v hr) dX4_meet_2 zw_m_X4_55 wYX4_relationAt wDX4_relationAt rfl (by omega) px_x rfl (Nat.le_of_ble_eq_true rfl) (by decide) rfl ?_
    refine zz_astore dX4_meet_5 (by decide) ?_
    refine zz_aload_n dX4_meet_7 rfl ?_
    refine zz_iload_n dX4_meet_8 rfl ?_
    refine zz_callV0 (ci := 4) (x_ce_v hi hn) dX4_meet_9 zw_m_X4_66 wYX4_checkElement wDX4_checkElement rfl (by omega) px_x rfl (Nat.le_of_ble_eq_true rfl) (by decide) rfl ?_
    refine zz_aload_n dX4_meet_12 rfl ?_
    refine zz_iload_n dX4_meet_13 rfl ?_
    refine zz_callV1 (ci := 4) (x_ra_v hw) dX4_meet_14 zw_m_X4_55 wYX4_relationAt wDX4_relationAt rfl (by omega) px_x rfl (Nat.le_of_ble_eq_true rfl) (by decide) rfl ?_
    refine zz_astore dX4_meet_17 (by decide) ?_
    refine zz_aload_n dX4_meet_19 rfl ?_
    refine zz_iload dX4_meet_20 rfl ?_
    refine zz_callV0 (ci := 4) (x_ce_v hj hn) dX4_meet_22 zw_m_X4_66 wYX4_checkElement wDX4_checkElement rfl (by omega) px_x rfl (Nat.le_of_ble_eq_true rfl) (by decide) rfl ?_
    refine zz_aload dX4_meet_25 rfl ?_
    refine zz_iload_n dX4_meet_27 rfl ?_
    refine zz_aload_n dX4_meet_28 rfl ?_
    refine zz_get (ci := 4) (j := 3) zz_inX4 rfl zw_f_X4_27 rfl (by decide) dX4_meet_29 (by omega) px_x rfl ?_
    refine zz_callV0 (ci := 1) (c_rowInto (show r < 8 by omega) (show i < 80 by omega) (p := 33) (by omega)) dX4_meet_32 zw_m_X4_73 wYX1_rowInto wDX1_rowInto rfl (by omega) (px_rel (by omega)) rfl (Nat.le_of_ble_eq_true rfl) (by decide) rfl ?_
    refine zz_aload_n dX4_meet_35 rfl ?_
    refine zz_get (ci := 4) (j := 3) zz_inX4 rfl zw_f_X4_27 rfl (by decide) dX4_meet_36 (by omega) px_x rfl ?_
    refine zg_bl zw_f_X4_99 dX4_meet_39 (by omega) ?_
    refine zz_aload dX4_meet_42 rfl ?_
    refine zz_iload dX4_meet_44 rfl ?_
    refine zz_callV1 (ci := 1) (c_lowAt (show w < 8 by omega) (show j < 80 by omega)) dX4_meet_46 zw_m_X4_166 wYX1_lowAt wDX1_lowAt rfl (by omega) (px_rel (by omega)) rfl (Nat.le_of_ble_eq_true rfl) (by decide) rfl ?_
    refine zz_land dX4_meet_49 ?_
    refine zz_lconst (v := 0) dX4_meet_50 (by decide) ?_
    refine zz_lcmp dX4_meet_51 ?_
    refine zz_if_ne (tgt := 75) dX4_meet_52 (by decide) (fun _ => ?_) (fun h => absurd (cmp_e.mp h) q1)
    refine zz_iconst (v := 1) dX4_meet_75 (by decide) ?_
    refine zz_goto (tgt := 80) dX4_meet_76 (by decide) ?_
    refine zz_zret dX4_meet_80 rfl (by first | rfl | exact zB_nar _) ?_
    have e9 : anb (fun k => R r i k && R w j k) n = true := by
      cases e : anb (fun k => R r i k && R w j k) n; exact absurd (hm.mpr e).1 q1; rfl
    exact xQ_i (by rw [e9]; rfl) (cI_s hI (up_ne _ _ (by omega)) (up_ne _ _ (by omega)))
set_option maxHeartbeats 1000000 in
set_option maxRecDepth 20000 in
theorem x_meet_1 {v : Int32} (h : isR v = false) (w x y : Int32) : zz_C mX4_meet 7 1 6 [.ref 52, .int v, .int w, .int x, .int y] (px El Lo Hi BL BH Od Ls (nI n) T) (fun o τ => o = .inr "java/lang/IndexOutOfBoundsException" ∧ τ = px El Lo Hi BL BH Od Ls (nI n) T) := by
  · refine zz_start wPX4_meet rfl rfl (Nat.le_of_ble_eq_true rfl) ?_
    refine zz_aload_n dX4_meet_0 rfl ?_
    refine zz_iload_n dX4_meet_1 rfl ?_
    refine zz_callV (ci := 4) (x_ra_x h) dX4_meet_2 zw_m_X4_55 wYX4_relationAt wDX4_relationAt rfl (by omega) px_x rfl (Nat.le_of_ble_eq_true rfl) (by decide) (by omega) (by omega) rfl (fun v9 τ9 h9 => by cases h9.1) (fun E9 τ9 h9 => ?_)
    obtain ⟨h91, rfl⟩ := h9
    cases h91
    exact ⟨rfl, rfl⟩
set_option maxHeartbeats 1000000 in
set_option maxRecDepth 20000 in
theorem x_meet_2 {r : Nat} (hr : r < 4) (hn : n ≤ 80) {w : Int32} (h : isE n w = false) (x y : Int32) : zz_C mX4_meet 7 1 6 [.ref 52, .int (nI r), .int w, .int x, .int y] (px El Lo Hi BL BH Od Ls (nI n) T) (fun o τ => o = .inr "java/lang/IndexOutOfBoundsException" ∧ τ = px El Lo Hi BL BH Od Ls (nI n) T) := by
  · refine zz_start wPX4_meet rfl rfl (Nat.le_of_ble_eq_true rfl) ?_
    refine zz_aload_n dX4_meet_0 rfl ?_
    refine zz_iload_n dX4_meet_1 rfl ?_
    refine zz_callV1 (ci := 4) (x_ra_v hr) dX4_meet_2 zw_m_X4_55 wYX4_relationAt wDX4_relationAt rfl (by omega) px_x rfl (Nat.le_of_ble_eq_true rfl) (by decide) rfl ?_
    refine zz_astore dX4_meet_5 (by decide) ?_
    refine zz_aload_n dX4_meet_7 rfl ?_
    refine zz_iload_n dX4_meet_8 rfl ?_
    refine zz_callV (ci := 4) (x_ce_x hn h) dX4_meet_9 zw_m_X4_66 wYX4_checkElement wDX4_checkElement rfl (by omega) px_x rfl (Nat.le_of_ble_eq_true rfl) (by decide) (by omega) (by omega) rfl (fun v9 τ9 h9 => by cases h9.1) (fun E9 τ9 h9 => ?_)
    obtain ⟨h91, rfl⟩ := h9
    cases h91
    exact ⟨rfl, rfl⟩
set_option maxHeartbeats 1000000 in
set_option maxRecDepth 20000 in
theorem x_meet_3 {r i : Nat} (hr : r < 4) (hi : i < n) (hn : n ≤ 80) {x : Int32} (h : isR x = false) (y : Int32) : zz_C mX4_meet 7 1 6 [.ref 52, .int (nI r), .int (nI i), .int x, .int y] (px El Lo Hi BL BH Od Ls (nI n) T) (fun o τ => o = .inr "java/lang/IndexOutOfBoundsException" ∧ τ = px El Lo Hi BL BH Od Ls (nI n) T) := by
  · refine zz_start wPX4_meet rfl rfl (Nat.le_of_ble_eq_true rfl) ?_
    refine zz_aload_n dX4_meet_0 rfl ?_
    refine zz_iload_n dX4_meet_1 rfl ?_
    refine zz_callV1 (ci := 4) (x_ra_v hr) dX4_meet_2 zw_m_X4_55 wYX4_relationAt wDX4_relationAt rfl (by omega) px_x rfl (Nat.le_of_ble_eq_true rfl) (by decide) rfl ?_
    refine zz_astore dX4_meet_5 (by decide) ?_
    refine zz_aload_n dX4_meet_7 rfl ?_
    refine zz_iload_n dX4_meet_8 rfl ?_
    refine zz_callV0 (ci := 4) (x_ce_v hi hn) dX4_meet_9 zw_m_X4_66 wYX4_checkElement wDX4_checkElement rfl (by omega) px_x rfl (Nat.le_of_ble_eq_true rfl) (by decide) rfl ?_
    refine zz_aload_n dX4_meet_12 rfl ?_
    refine zz_iload_n dX4_meet_13 rfl ?_
    refine zz_callV (ci := 4) (x_ra_x h) dX4_meet_14 zw_m_X4_55 wYX4_relationAt wDX4_relationAt rfl (by omega) px_x rfl (Nat.le_of_ble_eq_true rfl) (by decide) (by omega) (by omega) rfl (fun v9 τ9 h9 => by cases h9.1) (fun E9 τ9 h9 => ?_)
    obtain ⟨h91, rfl⟩ := h9
    cases h91
    exact ⟨rfl, rfl⟩
set_option maxHeartbeats 1000000 in
set_option maxRecDepth 20000 in
theorem x_meet_4 {r i w : Nat} (hr : r < 4) (hi : i < n) (hw : w < 4) (hn : n ≤ 80) {y : Int32} (h : isE n y = false) : zz_C mX4_meet 7 1 6 [.ref 52, .int (nI r), .int (nI i), .int (nI w), .int y] (px El Lo Hi BL BH Od Ls (nI n) T) (fun o τ => o = .inr "java/lang/IndexOutOfBoundsException" ∧ τ = px El Lo Hi BL BH Od Ls (nI n) T) := by
  · refine zz_start wPX4_meet rfl rfl (Nat.le_of_ble_eq_true rfl) ?_
    refine zz_aload_n dX4_meet_0 rfl ?_
    refine zz_iload_n dX4_meet_1 rfl ?_
    refine zz_callV1 (ci := 4) (x_ra_v hr) dX4_meet_2 zw_m_X4_55 wYX4_relationAt wDX4_relationAt rfl (by omega) px_x rfl (Nat.le_of_ble_eq_true rfl) (by decide) rfl ?_
    refine zz_astore dX4_meet_5 (by decide) ?_
    refine zz_aload_n dX4_meet_7 rfl ?_
    refine zz_iload_n dX4_meet_8 rfl ?_
    refine zz_callV0 (ci := 4) (x_ce_v hi hn) dX4_meet_9 zw_m_X4_66 wYX4_checkElement wDX4_checkElement rfl (by omega) px_x rfl (Nat.le_of_ble_eq_true rfl) (by decide) rfl ?_
    refine zz_aload_n dX4_meet_12 rfl ?_
    refine zz_iload_n dX4_meet_13 rfl ?_
    refine zz_callV1 (ci := 4) (x_ra_v hw) dX4_meet_14 zw_m_X4_55 wYX4_relationAt wDX4_relationAt rfl (by omega) px_x rfl (Nat.le_of_ble_eq_true rfl) (by decide) rfl ?_
    refine zz_astore dX4_meet_17 (by decide) ?_
    refine zz_aload_n dX4_meet_19 rfl ?_
    refine zz_iload dX4_meet_20 rfl ?_
    refine zz_callV (ci := 4) (x_ce_x hn h) dX4_meet_22 zw_m_X4_66 wYX4_checkElement wDX4_checkElement rfl (by omega) px_x rfl (Nat.le_of_ble_eq_true rfl) (by decide) (by omega) (by omega) rfl (fun v9 τ9 h9 => by cases h9.1) (fun E9 τ9 h9 => ?_)
    obtain ⟨h91, rfl⟩ := h9
    cases h91
    exact ⟨rfl, rfl⟩
set_option maxHeartbeats 1000000 in
set_option maxRecDepth 20000 in
theorem x_compare_v {r w : Nat} (hr : r < 4) (hw : w < 4) (hI : cI n El Lo Hi BL BH R mk) : zz_C mX4_compare 7 1 6 [.ref 52, .int (nI r), .int (nI w)] (px El Lo Hi BL BH Od Ls (nI n) T) (xQ n R mk T (.inl (some (.int (cmV (!(sbR n (R r) (R w))) (!(sbR n (R w) (R r)))))))) := by
  have hn := cI_n hI
  rw [← lk_sub hn (cI_R hI hr) (cI_R hI hw), ← lk_sub hn (cI_R hI hw) (cI_R hI hr)]
  cases q1 : alb (fun k => sbz (Lo w k) (Hi w k) (Lo r k) (Hi r k)) n <;> cases q2 : alb (fun k => sbz (Lo r k) (Hi r k) (Lo w k) (Hi w k)) n
  · refine zz_start wPX4_compare rfl rfl (Nat.le_of_ble_eq_true rfl) ?_
    refine zz_aload_n dX4_compare_0 rfl ?_
    refine zz_iload_n dX4_compare_1 rfl ?_
    refine zz_callV1 (ci := 4) (x_ra_v hr) dX4_compare_2 zw_m_X4_55 wYX4_relationAt wDX4_relationAt rfl (by omega) px_x rfl (Nat.le_of_ble_eq_true rfl) (by decide) rfl ?_
    refine zz_astore_n dX4_compare_5 (by decide) ?_
    refine zz_aload_n dX4_compare_6 rfl ?_
    refine zz_iload_n dX4_compare_7 rfl ?_
    refine zz_callV1 (ci := 4) (x_ra_v hw) dX4_compare_8 zw_m_X4_55 wYX4_relationAt wDX4_relationAt rfl (by omega) px_x rfl (Nat.le_of_ble_eq_true rfl) (by decide) rfl ?_
    refine zz_astore dX4_compare_11 (by decide) ?_
    refine zz_aload_n dX4_compare_13 rfl ?_
    refine zz_aload dX4_compare_14 rfl ?_
    refine zz_callV1 (ci := 1) (c_hasAllOf (show r < 8 by omega) (show w < 8 by omega) (cI_E hI hr) hn) dX4_compare_16 zw_m_X4_176 wYX1_hasAllOf wDX1_hasAllOf rfl (by omega) (px_rel (by omega)) rfl (Nat.le_of_ble_eq_true rfl) (by decide) rfl ?_
    refine zz_istore dX4_compare_19 (by decide) ?_
    refine zz_aload dX4_compare_21 rfl ?_
    refine zz_aload_n dX4_compare_23 rfl ?_
    refine zz_callV1 (ci := 1) (c_hasAllOf (show w < 8 by omega) (show r < 8 by omega) (cI_E hI hw) hn) dX4_compare_24 zw_m_X4_176 wYX1_hasAllOf wDX1_hasAllOf rfl (by omega) (px_rel (by omega)) rfl (Nat.le_of_ble_eq_true rfl) (by decide) rfl ?_
    refine zz_istore dX4_compare_27 (by decide) ?_
    refine zz_iload dX4_compare_29 rfl ?_
    refine zz_if_eq (tgt := 45) dX4_compare_31 (by decide) (fun _ => ?_) (fun h => absurd (zB_0.mpr q1) h)
    refine zz_iload dX4_compare_45 rfl ?_
    refine zz_if_eq (tgt := 54) dX4_compare_47 (by decide) (fun _ => ?_) (fun h => absurd (zB_0.mpr q2) h)
    refine zz_iconst (v := 3) dX4_compare_54 (by decide) ?_
    refine zz_iret dX4_compare_55 rfl ?_
    exact xQ_i rfl hI
  · refine zz_start wPX4_compare rfl rfl (Nat.le_of_ble_eq_true rfl) ?_
    refine zz_aload_n dX4_compare_0 rfl ?_
    refine zz_iload_n dX4_compare_1 rfl ?_
    refine zz_callV1 (ci := 4) (x_ra_v hr) dX4_compare_2 zw_m_X4_55 wYX4_relationAt wDX4_relationAt rfl (by omega) px_x rfl (Nat.le_of_ble_eq_true rfl) (by decide) rfl ?_
    refine zz_astore_n dX4_compare_5 (by decide) ?_
    refine zz_aload_n dX4_compare_6 rfl ?_
    refine zz_iload_n dX4_compare_7 rfl ?_
    refine zz_callV1 (ci := 4) (x_ra_v hw) dX4_compare_8 zw_m_X4_55 wYX4_relationAt wDX4_relationAt rfl (by omega) px_x rfl (Nat.le_of_ble_eq_true rfl) (by decide) rfl ?_
    refine zz_astore dX4_compare_11 (by decide) ?_
    refine zz_aload_n dX4_compare_13 rfl ?_
    refine zz_aload dX4_compare_14 rfl ?_
    refine zz_callV1 (ci := 1) (c_hasAllOf (show r < 8 by omega) (show w < 8 by omega) (cI_E hI hr) hn) dX4_compare_16 zw_m_X4_176 wYX1_hasAllOf wDX1_hasAllOf rfl (by omega) (px_rel (by omega)) rfl (Nat.le_of_ble_eq_true rfl) (by decide) rfl ?_
    refine zz_istore dX4_compare_19 (by decide) ?_
    refine zz_aload dX4_compare_21 rfl ?_
    refine zz_aload_n dX4_compare_23 rfl ?_
    refine zz_callV1 (ci := 1) (c_hasAllOf (show w < 8 by omega) (show r < 8 by omega) (cI_E hI hw) hn) dX4_compare_24 zw_m_X4_176 wYX1_hasAllOf wDX1_hasAllOf rfl (by omega) (px_rel (by omega)) rfl (Nat.le_of_ble_eq_true rfl) (by decide) rfl ?_
    refine zz_istore dX4_compare_27 (by decide) ?_
    refine zz_iload dX4_compare_29 rfl ?_
    refine zz_if_eq (tgt := 45) dX4_compare_31 (by decide) (fun _ => ?_) (fun h => absurd (zB_0.mpr q1) h)
    refine zz_iload dX4_compare_45 rfl ?_
    refine zz_if_eq (tgt := 54) dX4_compare_47 (by decide) (fun h => absurd (zB_0.mp h) (by rw [q2]; decide)) (fun _ => ?_)
    refine zz_iconst (v := 2) dX4_compare_50 (by decide) ?_
    refine zz_goto (tgt := 55) dX4_compare_51 (by decide) ?_
    refine zz_iret dX4_compare_55 rfl ?_
    exact xQ_i rfl hI
  · refine zz_start wPX4_compare rfl rfl (Nat.le_of_ble_eq_true rfl) ?_
    refine zz_aload_n dX4_compare_0 rfl ?_
    refine zz_iload_n dX4_compare_1 rfl ?_
    refine zz_callV1 (ci := 4) (x_ra_v hr) dX4_compare_2 zw_m_X4_55 wYX4_relationAt wDX4_relationAt rfl (by omega) px_x rfl (Nat.le_of_ble_eq_true rfl) (by decide) rfl ?_
    refine zz_astore_n dX4_compare_5 (by decide) ?_
    refine zz_aload_n dX4_compare_6 rfl ?_
    refine zz_iload_n dX4_compare_7 rfl ?_
    refine zz_callV1 (ci := 4) (x_ra_v hw) dX4_compare_8 zw_m_X4_55 wYX4_relationAt wDX4_relationAt rfl (by omega) px_x rfl (Nat.le_of_ble_eq_true rfl) (by decide) rfl ?_
    refine zz_astore dX4_compare_11 (by decide) ?_
    refine zz_aload_n dX4_compare_13 rfl ?_
    refine zz_aload dX4_compare_14 rfl ?_
    refine zz_callV1 (ci := 1) (c_hasAllOf (show r < 8 by omega) (show w < 8 by omega) (cI_E hI hr) hn) dX4_compare_16 zw_m_X4_176 wYX1_hasAllOf wDX1_hasAllOf rfl (by omega) (px_rel (by omega)) rfl (Nat.le_of_ble_eq_true rfl) (by decide) rfl ?_
    refine zz_istore dX4_compare_19 (by decide) ?_
    refine zz_aload dX4_compare_21 rfl ?_
    refine zz_aload_n dX4_compare_23 rfl ?_
    refine zz_callV1 (ci := 1) (c_hasAllOf (show w < 8 by omega) (show r < 8 by omega) (cI_E hI hw) hn) dX4_compare_24 zw_m_X4_176 wYX1_hasAllOf wDX1_hasAllOf rfl (by omega) (px_rel (by omega)) rfl (Nat.le_of_ble_eq_true rfl) (by decide) rfl ?_
    refine zz_istore dX4_compare_27 (by decide) ?_
    refine zz_iload dX4_compare_29 rfl ?_
    refine zz_if_eq (tgt := 45) dX4_compare_31 (by decide) (fun h => absurd (zB_0.mp h) (by rw [q1]; decide)) (fun _ => ?_)
    refine zz_iload dX4_compare_34 rfl ?_
    refine zz_if_eq (tgt := 43) dX4_compare_36 (by decide) (fun _ => ?_) (fun h => absurd (zB_0.mpr q2) h)
    refine zz_iconst (v := 1) dX4_compare_43 (by decide) ?_
    refine zz_iret dX4_compare_44 rfl ?_
    exact xQ_i rfl hI
  · refine zz_start wPX4_compare rfl rfl (Nat.le_of_ble_eq_true rfl) ?_
    refine zz_aload_n dX4_compare_0 rfl ?_
    refine zz_iload_n dX4_compare_1 rfl ?_
    refine zz_callV1 (ci := 4) (x_ra_v hr) dX4_compare_2 zw_m_X4_55 wYX4_relationAt wDX4_relationAt rfl (by omega) px_x rfl (Nat.le_of_ble_eq_true rfl) (by decide) rfl ?_
    refine zz_astore_n dX4_compare_5 (by decide) ?_
    refine zz_aload_n dX4_compare_6 rfl ?_
    refine zz_iload_n dX4_compare_7 rfl ?_
    refine zz_callV1 (ci := 4) (x_ra_v hw) dX4_compare_8 zw_m_X4_55 wYX4_relationAt wDX4_relationAt rfl (by omega) px_x rfl (Nat.le_of_ble_eq_true rfl) (by decide) rfl ?_
    refine zz_astore dX4_compare_11 (by decide) ?_
    refine zz_aload_n dX4_compare_13 rfl ?_
    refine zz_aload dX4_compare_14 rfl ?_
    refine zz_callV1 (ci := 1) (c_hasAllOf (show r < 8 by omega) (show w < 8 by omega) (cI_E hI hr) hn) dX4_compare_16 zw_m_X4_176 wYX1_hasAllOf wDX1_hasAllOf rfl (by omega) (px_rel (by omega)) rfl (Nat.le_of_ble_eq_true rfl) (by decide) rfl ?_
    refine zz_istore dX4_compare_19 (by decide) ?_
    refine zz_aload dX4_compare_21 rfl ?_
    refine zz_aload_n dX4_compare_23 rfl ?_
    refine zz_callV1 (ci := 1) (c_hasAllOf (show w < 8 by omega) (show r < 8 by omega) (cI_E hI hw) hn) dX4_compare_24 zw_m_X4_176 wYX1_hasAllOf wDX1_hasAllOf rfl (by omega) (px_rel (by omega)) rfl (Nat.le_of_ble_eq_true rfl) (by decide) rfl ?_
    refine zz_istore dX4_compare_27 (by decide) ?_
    refine zz_iload dX4_compare_29 rfl ?_
    refine zz_if_eq (tgt := 45) dX4_compare_31 (by decide) (fun h => absurd (zB_0.mp h) (by rw [q1]; decide)) (fun _ => ?_)
    refine zz_iload dX4_compare_34 rfl ?_
    refine zz_if_eq (tgt := 43) dX4_compare_36 (by decide) (fun h => absurd (zB_0.mp h) (by rw [q2]; decide)) (fun _ => ?_)
    refine zz_iconst (v := 0) dX4_compare_39 (by decide) ?_
    refine zz_goto (tgt := 44) dX4_compare_40 (by decide) ?_
    refine zz_iret dX4_compare_44 rfl ?_
    exact xQ_i rfl hI
set_option maxHeartbeats 1000000 in
set_option maxRecDepth 20000 in
theorem x_compare_1 {v : Int32} (h : isR v = false) (u : Int32) : zz_C mX4_compare 7 1 6 [.ref 52, .int v, .int u] (px El Lo Hi BL BH Od Ls (nI n) T) (fun o τ => o = .inr "java/lang/IndexOutOfBoundsException" ∧ τ = px El Lo Hi BL BH Od Ls (nI n) T) := by
  · refine zz_start wPX4_compare rfl rfl (Nat.le_of_ble_eq_true rfl) ?_
    refine zz_aload_n dX4_compare_0 rfl ?_
    refine zz_iload_n dX4_compare_1 rfl ?_
    refine zz_callV (ci := 4) (x_ra_x h) dX4_compare_2 zw_m_X4_55 wYX4_relationAt wDX4_relationAt rfl (by omega) px_x rfl (Nat.le_of_ble_eq_true rfl) (by decide) (by omega) (by omega) rfl (fun v9 τ9 h9 => by cases h9.1) (fun E9 τ9 h9 => ?_)
    obtain ⟨h91, rfl⟩ := h9
    cases h91
    exact ⟨rfl, rfl⟩
set_option maxHeartbeats 1000000 in
set_option maxRecDepth 20000 in
theorem x_compare_2 {r : Nat} (hr : r < 4) {u : Int32} (h : isR u = false) : zz_C mX4_compare 7 1 6 [.ref 52, .int (nI r), .int u] (px El Lo Hi BL BH Od Ls (nI n) T) (fun o τ => o = .inr "java/lang/IndexOutOfBoundsException" ∧ τ = px El Lo Hi BL BH Od Ls (nI n) T) := by
  · refine zz_start wPX4_compare rfl rfl (Nat.le_of_ble_eq_true rfl) ?_
    refine zz_aload_n dX4_compare_0 rfl ?_
    refine zz_iload_n dX4_compare_1 rfl ?_
    refine zz_callV1 (ci := 4) (x_ra_v hr) dX4_compare_2 zw_m_X4_55 wYX4_relationAt wDX4_relationAt rfl (by omega) px_x rfl (Nat.le_of_ble_eq_true rfl) (by decide) rfl ?_
    refine zz_astore_n dX4_compare_5 (by decide) ?_
    refine zz_aload_n dX4_compare_6 rfl ?_
    refine zz_iload_n dX4_compare_7 rfl ?_
    refine zz_callV (ci := 4) (x_ra_x h) dX4_compare_8 zw_m_X4_55 wYX4_relationAt wDX4_relationAt rfl (by omega) px_x rfl (Nat.le_of_ble_eq_true rfl) (by decide) (by omega) (by omega) rfl (fun v9 τ9 h9 => by cases h9.1) (fun E9 τ9 h9 => ?_)
    obtain ⟨h91, rfl⟩ := h9
    cases h91
    exact ⟨rfl, rfl⟩
set_option maxHeartbeats 1000000 in
set_option maxRecDepth 20000 in
theorem x_is_v {r w : Nat} (hr : r < 4) (hw : w < 6) (hI : cI n El Lo Hi BL BH R mk) : zz_C mX4_is 7 1 6 [.ref 52, .int (nI r), .int (nI w)] (px El Lo Hi BL BH Od Ls (nI n) T) (xQ n R mk T (.inl (some (.int (zB (isV n (R r) w)))))) := by
  have hn := cI_n hI
  have h1n := cI_1 hI
  rcases (show w = 0 ∨ w = 1 ∨ w = 2 ∨ w = 3 ∨ w = 4 ∨ w = 5 by omega) with rfl | rfl | rfl | rfl | rfl | rfl
  · refine zz_start wPX4_is rfl rfl (Nat.le_of_ble_eq_true rfl) ?_
    refine zz_aload_n dX4_is_0 rfl ?_
    refine zz_iload_n dX4_is_1 rfl ?_
    refine zz_callV1 (ci := 4) (x_ra_v hr) dX4_is_2 zw_m_X4_55 wYX4_relationAt wDX4_relationAt rfl (by omega) px_x rfl (Nat.le_of_ble_eq_true rfl) (by decide) rfl ?_
    refine zz_astore_n dX4_is_5 (by decide) ?_
    refine zz_iload_n dX4_is_6 rfl ?_
    refine zz_if_lt (tgt := 15) dX4_is_7 (by decide) (fun h => absurd h (by decide)) (fun _ => ?_)
    refine zz_iload_n dX4_is_10 rfl ?_
    refine zz_iconst (v := 5) dX4_is_11 (by decide) ?_
    refine zz_icmp_le (tgt := 25) dX4_is_12 (by decide) (fun _ => ?_) (fun h => absurd (by decide) h)
    refine zz_iload_n dX4_is_25 rfl ?_
    refine zz_tableIn (tgt := 60) dX4_is_26 (by decide) (by decide) rfl (by decide) ?_
    refine zz_aload_n dX4_is_60 rfl ?_
    refine zz_callV1 (ci := 1) (c_ownPairs (show r < 8 by omega) (cI_E hI hr) hn) dX4_is_61 zw_m_X4_182 wYX1_ownPairs wDX1_ownPairs rfl (by omega) (px_rel (by omega)) rfl (Nat.le_of_ble_eq_true rfl) (by decide) rfl ?_
    refine zz_aload_n dX4_is_64 rfl ?_
    refine zz_get (ci := 4) (j := 0) zz_inX4 rfl zw_f_X4_9 rfl (by decide) dX4_is_65 (by omega) px_x rfl ?_
    refine zz_icmp_ne (tgt := 75) dX4_is_68 (by decide) (fun h68 => ?_) (fun h68 => ?_)
    · refine zz_iconst (v := 0) dX4_is_75 (by decide) ?_
      refine zz_zret dX4_is_76 rfl (by first | rfl | exact zB_nar _) ?_
      exact xQ_i (by rw [← is_0 hn (cI_R hI hr)]; first | (rw [decide_eq_true (Classical.not_not.mp h68)]; rfl) | (rw [decide_eq_false h68]; rfl) | (rw [decide_eq_true h68]; rfl)) hI
    · refine zz_iconst (v := 1) dX4_is_71 (by decide) ?_
      refine zz_goto (tgt := 76) dX4_is_72 (by decide) ?_
      refine zz_zret dX4_is_76 rfl (by first | rfl | exact zB_nar _) ?_
      exact xQ_i (by rw [← is_0 hn (cI_R hI hr)]; first | (rw [decide_eq_true (Classical.not_not.mp h68)]; rfl) | (rw [decide_eq_false h68]; rfl) | (rw [decide_eq_true h68]; rfl)) hI
  · refine zz_start wPX4_is rfl rfl (Nat.le_of_ble_eq_true rfl) ?_
    refine zz_aload_n dX4_is_0 rfl ?_
    refine zz_iload_n dX4_is_1 rfl ?_
    refine zz_callV1 (ci := 4) (x_ra_v hr) dX4_is_2 zw_m_X4_55 wYX4_relationAt wDX4_relationAt rfl (by omega) px_x rfl (Nat.le_of_ble_eq_true rfl) (by decide) rfl ?_
    refine zz_astore_n dX4_is_5 (by decide) ?_
    refine zz_iload_n dX4_is_6 rfl ?_
    refine zz_if_lt (tgt := 15) dX4_is_7 (by decide) (fun h => absurd h (by decide)) (fun _ => ?_)
    refine zz_iload_n dX4_is_10 rfl ?_
    refine zz_iconst (v := 5) dX4_is_11 (by decide) ?_
    refine zz_icmp_le (tgt := 25) dX4_is_12 (by decide) (fun _ => ?_) (fun h => absurd (by decide) h)
    refine zz_iload_n dX4_is_25 rfl ?_
    refine zz_tableIn (tgt := 77) dX4_is_26 (by decide) (by decide) rfl (by decide) ?_
    refine zz_aload_n dX4_is_77 rfl ?_
    refine zz_callV1 (ci := 1) (c_ownPairs (show r < 8 by omega) (cI_E hI hr) hn) dX4_is_78 zw_m_X4_182 wYX1_ownPairs wDX1_ownPairs rfl (by omega) (px_rel (by omega)) rfl (Nat.le_of_ble_eq_true rfl) (by decide) rfl ?_
    refine zz_if_ne (tgt := 88) dX4_is_81 (by decide) (fun h81 => ?_) (fun h81 => ?_)
    · refine zz_iconst (v := 0) dX4_is_88 (by decide) ?_
      refine zz_zret dX4_is_89 rfl (by first | rfl | exact zB_nar _) ?_
      exact xQ_i (by rw [← is_1 hn (cI_R hI hr)]; first | (rw [decide_eq_true (Classical.not_not.mp h81)]; rfl) | (rw [decide_eq_false h81]; rfl) | (rw [decide_eq_true h81]; rfl)) hI
    · refine zz_iconst (v := 1) dX4_is_84 (by decide) ?_
      refine zz_goto (tgt := 89) dX4_is_85 (by decide) ?_
      refine zz_zret dX4_is_89 rfl (by first | rfl | exact zB_nar _) ?_
      exact xQ_i (by rw [← is_1 hn (cI_R hI hr)]; first | (rw [decide_eq_true (Classical.not_not.mp h81)]; rfl) | (rw [decide_eq_false h81]; rfl) | (rw [decide_eq_true h81]; rfl)) hI
  · refine zz_start wPX4_is rfl rfl (Nat.le_of_ble_eq_true rfl) ?_
    refine zz_aload_n dX4_is_0 rfl ?_
    refine zz_iload_n dX4_is_1 rfl ?_
    refine zz_callV1 (ci := 4) (x_ra_v hr) dX4_is_2 zw_m_X4_55 wYX4_relationAt wDX4_relationAt rfl (by omega) px_x rfl (Nat.le_of_ble_eq_true rfl) (by decide) rfl ?_
    refine zz_astore_n dX4_is_5 (by decide) ?_
    refine zz_iload_n dX4_is_6 rfl ?_
    refine zz_if_lt (tgt := 15) dX4_is_7 (by decide) (fun h => absurd h (by decide)) (fun _ => ?_)
    refine zz_iload_n dX4_is_10 rfl ?_
    refine zz_iconst (v := 5) dX4_is_11 (by decide) ?_
    refine zz_icmp_le (tgt := 25) dX4_is_12 (by decide) (fun _ => ?_) (fun h => absurd (by decide) h)
    refine zz_iload_n dX4_is_25 rfl ?_
    refine zz_tableIn (tgt := 95) dX4_is_26 (by decide) (by decide) rfl (by decide) ?_
    refine zz_aload_n dX4_is_95 rfl ?_
    refine zz_iload_n dX4_is_96 rfl ?_
    refine zz_callV1 (ci := 1) (c_everyTwoAre (show r < 8 by omega) (cI_E hI hr) hn (w := 2) (by omega) h1n) dX4_is_97 zw_m_X4_189 wYX1_everyTwoAre wDX1_everyTwoAre rfl (by omega) (px_rel (by omega)) rfl (Nat.le_of_ble_eq_true rfl) (by decide) rfl ?_
    refine zz_zret dX4_is_100 rfl (by first | rfl | exact zB_nar _) ?_
    exact xQ_i (by rw [← is_e hn (cI_R hI hr) (by omega)]) hI
  · refine zz_start wPX4_is rfl rfl (Nat.le_of_ble_eq_true rfl) ?_
    refine zz_aload_n dX4_is_0 rfl ?_
    refine zz_iload_n dX4_is_1 rfl ?_
    refine zz_callV1 (ci := 4) (x_ra_v hr) dX4_is_2 zw_m_X4_55 wYX4_relationAt wDX4_relationAt rfl (by omega) px_x rfl (Nat.le_of_ble_eq_true rfl) (by decide) rfl ?_
    refine zz_astore_n dX4_is_5 (by decide) ?_
    refine zz_iload_n dX4_is_6 rfl ?_
    refine zz_if_lt (tgt := 15) dX4_is_7 (by decide) (fun h => absurd h (by decide)) (fun _ => ?_)
    refine zz_iload_n dX4_is_10 rfl ?_
    refine zz_iconst (v := 5) dX4_is_11 (by decide) ?_
    refine zz_icmp_le (tgt := 25) dX4_is_12 (by decide) (fun _ => ?_) (fun h => absurd (by decide) h)
    refine zz_iload_n dX4_is_25 rfl ?_
    refine zz_tableIn (tgt := 95) dX4_is_26 (by decide) (by decide) rfl (by decide) ?_
    refine zz_aload_n dX4_is_95 rfl ?_
    refine zz_iload_n dX4_is_96 rfl ?_
    refine zz_callV1 (ci := 1) (c_everyTwoAre (show r < 8 by omega) (cI_E hI hr) hn (w := 3) (by omega) h1n) dX4_is_97 zw_m_X4_189 wYX1_everyTwoAre wDX1_everyTwoAre rfl (by omega) (px_rel (by omega)) rfl (Nat.le_of_ble_eq_true rfl) (by decide) rfl ?_
    refine zz_zret dX4_is_100 rfl (by first | rfl | exact zB_nar _) ?_
    exact xQ_i (by rw [← is_e hn (cI_R hI hr) (by omega)]) hI
  · refine zz_start wPX4_is rfl rfl (Nat.le_of_ble_eq_true rfl) ?_
    refine zz_aload_n dX4_is_0 rfl ?_
    refine zz_iload_n dX4_is_1 rfl ?_
    refine zz_callV1 (ci := 4) (x_ra_v hr) dX4_is_2 zw_m_X4_55 wYX4_relationAt wDX4_relationAt rfl (by omega) px_x rfl (Nat.le_of_ble_eq_true rfl) (by decide) rfl ?_
    refine zz_astore_n dX4_is_5 (by decide) ?_
    refine zz_iload_n dX4_is_6 rfl ?_
    refine zz_if_lt (tgt := 15) dX4_is_7 (by decide) (fun h => absurd h (by decide)) (fun _ => ?_)
    refine zz_iload_n dX4_is_10 rfl ?_
    refine zz_iconst (v := 5) dX4_is_11 (by decide) ?_
    refine zz_icmp_le (tgt := 25) dX4_is_12 (by decide) (fun _ => ?_) (fun h => absurd (by decide) h)
    refine zz_iload_n dX4_is_25 rfl ?_
    refine zz_tableIn (tgt := 90) dX4_is_26 (by decide) (by decide) rfl (by decide) ?_
    refine zz_aload_n dX4_is_90 rfl ?_
    refine zz_callV (ci := 1) (c_isTransitive (show r < 8 by omega) (cI_E hI hr) hn (lk_cln (cI_R hI hr))) dX4_is_91 zw_m_X4_185 wYX1_isTransitive wDX1_isTransitive rfl (by omega) (px_rel (by omega)) rfl (Nat.le_of_ble_eq_true rfl) (by decide) (by omega) (by omega) rfl ?_ (fun E τ hE => by cases hE.1)
    rintro v9 τ9 ⟨hv9, B, C, hB, hC, rfl⟩
    cases hv9
    refine zz_zret dX4_is_94 rfl (by first | rfl | exact zB_nar _) ?_
    exact xQ_i (by rw [← is_4 hn (cI_R hI hr)]) (cI_s hI (hB 32 (by omega)) (hC 32 (by omega)))
  · refine zz_start wPX4_is rfl rfl (Nat.le_of_ble_eq_true rfl) ?_
    refine zz_aload_n dX4_is_0 rfl ?_
    refine zz_iload_n dX4_is_1 rfl ?_
    refine zz_callV1 (ci := 4) (x_ra_v hr) dX4_is_2 zw_m_X4_55 wYX4_relationAt wDX4_relationAt rfl (by omega) px_x rfl (Nat.le_of_ble_eq_true rfl) (by decide) rfl ?_
    refine zz_astore_n dX4_is_5 (by decide) ?_
    refine zz_iload_n dX4_is_6 rfl ?_
    refine zz_if_lt (tgt := 15) dX4_is_7 (by decide) (fun h => absurd h (by decide)) (fun _ => ?_)
    refine zz_iload_n dX4_is_10 rfl ?_
    refine zz_iconst (v := 5) dX4_is_11 (by decide) ?_
    refine zz_icmp_le (tgt := 25) dX4_is_12 (by decide) (fun _ => ?_) (fun h => absurd (by decide) h)
    refine zz_iload_n dX4_is_25 rfl ?_
    refine zz_tableOut (tgt := 95) dX4_is_26 (by decide) (by decide) ?_
    refine zz_aload_n dX4_is_95 rfl ?_
    refine zz_iload_n dX4_is_96 rfl ?_
    refine zz_callV1 (ci := 1) (c_everyTwoAre (show r < 8 by omega) (cI_E hI hr) hn (w := 5) (by omega) h1n) dX4_is_97 zw_m_X4_189 wYX1_everyTwoAre wDX1_everyTwoAre rfl (by omega) (px_rel (by omega)) rfl (Nat.le_of_ble_eq_true rfl) (by decide) rfl ?_
    refine zz_zret dX4_is_100 rfl (by first | rfl | exact zB_nar _) ?_
    exact xQ_i (by rw [← is_e hn (cI_R hI hr) (by omega)]) hI
set_option maxHeartbeats 1000000 in
set_option maxRecDepth 20000 in
theorem x_is_1 {v : Int32} (h : isR v = false) (w : Int32) : zz_C mX4_is 7 1 6 [.ref 52, .int v, .int w] (px El Lo Hi BL BH Od Ls (nI n) T) (fun o τ => o = .inr "java/lang/IndexOutOfBoundsException" ∧ τ = px El Lo Hi BL BH Od Ls (nI n) T) := by
  · refine zz_start wPX4_is rfl rfl (Nat.le_of_ble_eq_true rfl) ?_
    refine zz_aload_n dX4_is_0 rfl ?_
    refine zz_iload_n dX4_is_1 rfl ?_
    refine zz_callV (ci := 4) (x_ra_x h) dX4_is_2 zw_m_X4_55 wYX4_relationAt wDX4_relationAt rfl (by omega) px_x rfl (Nat.le_of_ble_eq_true rfl) (by decide) (by omega) (by omega) rfl (fun v9 τ9 h9 => by cases h9.1) (fun E9 τ9 h9 => ?_)
    obtain ⟨h91, rfl⟩ := h9
    cases h91
    exact ⟨rfl, rfl⟩
set_option maxHeartbeats 1000000 in
set_option maxRecDepth 20000 in
theorem x_is_2 {r : Nat} (hr : r < 4) {z : Int32} (h : isH z = false) : zz_C mX4_is 7 1 6 [.ref 52, .int (nI r), .int z] (px El Lo Hi BL BH Od Ls (nI n) T) (fun o τ => o = .inr "java/lang/IllegalArgumentException" ∧ τ = px El Lo Hi BL BH Od Ls (nI n) T) := by
  rcases isH_x h with h1 | ⟨h1, h2⟩
  · refine zz_start wPX4_is rfl rfl (Nat.le_of_ble_eq_true rfl) ?_
    refine zz_aload_n dX4_is_0 rfl ?_
    refine zz_iload_n dX4_is_1 rfl ?_
    refine zz_callV1 (ci := 4) (x_ra_v hr) dX4_is_2 zw_m_X4_55 wYX4_relationAt wDX4_relationAt rfl (by omega) px_x rfl (Nat.le_of_ble_eq_true rfl) (by decide) rfl ?_
    refine zz_astore_n dX4_is_5 (by decide) ?_
    refine zz_iload_n dX4_is_6 rfl ?_
    refine zz_if_lt (tgt := 15) dX4_is_7 (by decide) (fun _ => ?_) (fun q => absurd h1 q)
    refine zz_throw (cls := "java/lang/IllegalArgumentException") (text := "what is out of range") (by decide +kernel) rfl rfl (by decide +kernel) zw_l_X4_48 zw_n_java_lang_IllegalArgumentException zz_at_iae zz_bd_iae (by decide +kernel) dX4_is_15 dX4_is_18 dX4_is_19 dX4_is_21 dX4_is_24 (by omega) (by omega) (by omega) (Nat.le_of_ble_eq_true rfl) ?_
    exact ⟨rfl, rfl⟩
  · refine zz_start wPX4_is rfl rfl (Nat.le_of_ble_eq_true rfl) ?_
    refine zz_aload_n dX4_is_0 rfl ?_
    refine zz_iload_n dX4_is_1 rfl ?_
    refine zz_callV1 (ci := 4) (x_ra_v hr) dX4_is_2 zw_m_X4_55 wYX4_relationAt wDX4_relationAt rfl (by omega) px_x rfl (Nat.le_of_ble_eq_true rfl) (by decide) rfl ?_
    refine zz_astore_n dX4_is_5 (by decide) ?_
    refine zz_iload_n dX4_is_6 rfl ?_
    refine zz_if_lt (tgt := 15) dX4_is_7 (by decide) (fun q => absurd q h1) (fun _ => ?_)
    refine zz_iload_n dX4_is_10 rfl ?_
    refine zz_iconst (v := 5) dX4_is_11 (by decide) ?_
    refine zz_icmp_le (tgt := 25) dX4_is_12 (by decide) (fun q => absurd q h2) (fun _ => ?_)
    refine zz_throw (cls := "java/lang/IllegalArgumentException") (text := "what is out of range") (by decide +kernel) rfl rfl (by decide +kernel) zw_l_X4_48 zw_n_java_lang_IllegalArgumentException zz_at_iae zz_bd_iae (by decide +kernel) dX4_is_15 dX4_is_18 dX4_is_19 dX4_is_21 dX4_is_24 (by omega) (by omega) (by omega) (Nat.le_of_ble_eq_true rfl) ?_
    exact ⟨rfl, rfl⟩
end ZZX4D
