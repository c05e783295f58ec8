section ZZM8
variable {MB : Nat → Nat → Bool} {MI : Nat → Nat → Int32} {n : Nat} {mt : Int32} {T : zz_St}
def kpV (g c s e : Bool) (w : Nat) : Bool := if w = 0 then !e || g else if w = 1 then !e || !g else if w = 2 then g == c else if w = 3 then e || (!g || !c) else if w = 4 then g || !s else e || (g || c)
theorem nI_i {i k : Nat} (hi : i < 80) (hk : k < 80) : nI i = nI k ↔ i = k := nI_eq (by omega) (by omega)
theorem alb_m {f : Nat → Bool} {i n : Nat} (hi : i ≤ n) (h : alb f i = false) : alb f n = false := by
  cases hn : alb f n
  · rfl
  · rw [alb_t.mpr (fun k hk => alb_t.mp hn k (by omega))] at h; cases h
theorem alb_s {f : Nat → Bool} {i : Nat} (h : alb f i = true) : alb f (i + 1) = f i := by
  show (alb f i && f i) = f i
  rw [h, Bool.true_and]
set_option maxHeartbeats 1000000 in
set_option maxRecDepth 20000 in
theorem m_keeps {r i k w : Nat} (hr : r < 4) (hi : i < 80) (hk : k < 80) (hw : w < 6) : zz_C mX5_keeps 2 0 0 [.ref 54, .int (nI r), .int (nI w), .int (nI i), .int (nI k)] (pm MB MI (nI n) mt T) (fun o τ => o = .inl (some (.int (zB (kpV (MB 55 (6400 * r + 80 * i + k)) (MB 55 (6400 * r + 80 * k + i)) (MB 57 (80 * i + k)) (decide (i = k)) w)))) ∧ τ = pm MB MI (nI n) mt T) := by
  rcases (show w = 0 ∨ w = 1 ∨ w = 2 ∨ w = 3 ∨ w = 4 ∨ w = 5 by omega) with rfl | rfl | rfl | rfl | rfl | rfl <;> by_cases hee : nI i = nI k
  · have hd : decide (i = k) = true := decide_eq_true ((nI_i hi hk).mp hee)
    refine zz_start wPX5_keeps rfl rfl (Nat.le_of_ble_eq_true rfl) ?_
    refine zz_aload_n dX5_keeps_0 rfl ?_
    refine zz_iload_n dX5_keeps_1 rfl ?_
    refine zz_iload_n dX5_keeps_2 rfl ?_
    refine zz_iload dX5_keeps_3 rfl ?_
    refine zz_callV1 (ci := 5) (m_leads hr hi hk) dX5_keeps_5 zw_m_X5_66 wYX5_leads wDX5_leads rfl (by omega) pm_o rfl (Nat.le_of_ble_eq_true rfl) (by decide) rfl ?_
    refine zz_istore dX5_keeps_8 (by decide) ?_
    refine zz_aload_n dX5_keeps_10 rfl ?_
    refine zz_iload_n dX5_keeps_11 rfl ?_
    refine zz_iload dX5_keeps_12 rfl ?_
    refine zz_iload_n dX5_keeps_14 rfl ?_
    refine zz_callV1 (ci := 5) (m_leads hr hk hi) dX5_keeps_15 zw_m_X5_66 wYX5_leads wDX5_leads rfl (by omega) pm_o rfl (Nat.le_of_ble_eq_true rfl) (by decide) rfl ?_
    refine zz_istore dX5_keeps_18 (by decide) ?_
    refine zz_iload_n dX5_keeps_20 rfl ?_
    refine zz_tableIn (tgt := 56) dX5_keeps_21 (by decide) (by decide) rfl (by decide) ?_
    refine zz_iload_n dX5_keeps_56 rfl ?_
    refine zz_iload dX5_keeps_57 rfl ?_
    refine zz_icmp_ne (tgt := 67) dX5_keeps_59 (by decide) (fun q => absurd hee q) (fun _ => ?_)
    refine zz_iload dX5_keeps_62 rfl ?_
    refine zz_if_eq (tgt := 71) dX5_keeps_64 (by decide) (fun h64 => ?_) (fun h64 => ?_)
    · refine zz_iconst (v := 0) dX5_keeps_71 (by decide) ?_
      refine zz_zret dX5_keeps_72 rfl (by first | rfl | exact zB_nar _) ?_
      refine ⟨?_, rfl⟩
      rw [hd]
      simp_all [zB_0, zB_n, zB, kpV]
    · refine zz_iconst (v := 1) dX5_keeps_67 (by decide) ?_
      refine zz_goto (tgt := 72) dX5_keeps_68 (by decide) ?_
      refine zz_zret dX5_keeps_72 rfl (by first | rfl | exact zB_nar _) ?_
      refine ⟨?_, rfl⟩
      rw [hd]
      simp_all [zB_0, zB_n, zB, kpV]
  · have hd : decide (i = k) = false := decide_eq_false (fun q => hee ((nI_i hi hk).mpr q))
    refine zz_start wPX5_keeps rfl rfl (Nat.le_of_ble_eq_true rfl) ?_
    refine zz_aload_n dX5_keeps_0 rfl ?_
    refine zz_iload_n dX5_keeps_1 rfl ?_
    refine zz_iload_n dX5_keeps_2 rfl ?_
    refine zz_iload dX5_keeps_3 rfl ?_
    refine zz_callV1 (ci := 5) (m_leads hr hi hk) dX5_keeps_5 zw_m_X5_66 wYX5_leads wDX5_leads rfl (by omega) pm_o rfl (Nat.le_of_ble_eq_true rfl) (by decide) rfl ?_
    refine zz_istore dX5_keeps_8 (by decide) ?_
    refine zz_aload_n dX5_keeps_10 rfl ?_
    refine zz_iload_n dX5_keeps_11 rfl ?_
    refine zz_iload dX5_keeps_12 rfl ?_
    refine zz_iload_n dX5_keeps_14 rfl ?_
    refine zz_callV1 (ci := 5) (m_leads hr hk hi) dX5_keeps_15 zw_m_X5_66 wYX5_leads wDX5_leads rfl (by omega) pm_o rfl (Nat.le_of_ble_eq_true rfl) (by decide) rfl ?_
    refine zz_istore dX5_keeps_18 (by decide) ?_
    refine zz_iload_n dX5_keeps_20 rfl ?_
    refine zz_tableIn (tgt := 56) dX5_keeps_21 (by decide) (by decide) rfl (by decide) ?_
    refine zz_iload_n dX5_keeps_56 rfl ?_
    refine zz_iload dX5_keeps_57 rfl ?_
    refine zz_icmp_ne (tgt := 67) dX5_keeps_59 (by decide) (fun _ => ?_) (fun q => absurd q hee)
    refine zz_iconst (v := 1) dX5_keeps_67 (by decide) ?_
    refine zz_goto (tgt := 72) dX5_keeps_68 (by decide) ?_
    refine zz_zret dX5_keeps_72 rfl (by first | rfl | exact zB_nar _) ?_
    refine ⟨?_, rfl⟩
    rw [hd]
    simp_all [zB_0, zB_n, zB, kpV]
  · have hd : decide (i = k) = true := decide_eq_true ((nI_i hi hk).mp hee)
    refine zz_start wPX5_keeps rfl rfl (Nat.le_of_ble_eq_true rfl) ?_
    refine zz_aload_n dX5_keeps_0 rfl ?_
    refine zz_iload_n dX5_keeps_1 rfl ?_
    refine zz_iload_n dX5_keeps_2 rfl ?_
    refine zz_iload dX5_keeps_3 rfl ?_
    refine zz_callV1 (ci := 5) (m_leads hr hi hk) dX5_keeps_5 zw_m_X5_66 wYX5_leads wDX5_leads rfl (by omega) pm_o rfl (Nat.le_of_ble_eq_true rfl) (by decide) rfl ?_
    refine zz_istore dX5_keeps_8 (by decide) ?_
    refine zz_aload_n dX5_keeps_10 rfl ?_
    refine zz_iload_n dX5_keeps_11 rfl ?_
    refine zz_iload dX5_keeps_12 rfl ?_
    refine zz_iload_n dX5_keeps_14 rfl ?_
    refine zz_callV1 (ci := 5) (m_leads hr hk hi) dX5_keeps_15 zw_m_X5_66 wYX5_leads wDX5_leads rfl (by omega) pm_o rfl (Nat.le_of_ble_eq_true rfl) (by decide) rfl ?_
    refine zz_istore dX5_keeps_18 (by decide) ?_
    refine zz_iload_n dX5_keeps_20 rfl ?_
    refine zz_tableIn (tgt := 73) dX5_keeps_21 (by decide) (by decide) rfl (by decide) ?_
    refine zz_iload_n dX5_keeps_73 rfl ?_
    refine zz_iload dX5_keeps_74 rfl ?_
    refine zz_icmp_ne (tgt := 84) dX5_keeps_76 (by decide) (fun q => absurd hee q) (fun _ => ?_)
    refine zz_iload dX5_keeps_79 rfl ?_
    refine zz_if_ne (tgt := 88) dX5_keeps_81 (by decide) (fun h81 => ?_) (fun h81 => ?_)
    · refine zz_iconst (v := 0) dX5_keeps_88 (by decide) ?_
      refine zz_zret dX5_keeps_89 rfl (by first | rfl | exact zB_nar _) ?_
      refine ⟨?_, rfl⟩
      rw [hd]
      simp_all [zB_0, zB_n, zB, kpV]
    · refine zz_iconst (v := 1) dX5_keeps_84 (by decide) ?_
      refine zz_goto (tgt := 89) dX5_keeps_85 (by decide) ?_
      refine zz_zret dX5_keeps_89 rfl (by first | rfl | exact zB_nar _) ?_
      refine ⟨?_, rfl⟩
      rw [hd]
      simp_all [zB_0, zB_n, zB, kpV]
  · have hd : decide (i = k) = false := decide_eq_false (fun q => hee ((nI_i hi hk).mpr q))
    refine zz_start wPX5_keeps rfl rfl (Nat.le_of_ble_eq_true rfl) ?_
    refine zz_aload_n dX5_keeps_0 rfl ?_
    refine zz_iload_n dX5_keeps_1 rfl ?_
    refine zz_iload_n dX5_keeps_2 rfl ?_
    refine zz_iload dX5_keeps_3 rfl ?_
    refine zz_callV1 (ci := 5) (m_leads hr hi hk) dX5_keeps_5 zw_m_X5_66 wYX5_leads wDX5_leads rfl (by omega) pm_o rfl (Nat.le_of_ble_eq_true rfl) (by decide) rfl ?_
    refine zz_istore dX5_keeps_8 (by decide) ?_
    refine zz_aload_n dX5_keeps_10 rfl ?_
    refine zz_iload_n dX5_keeps_11 rfl ?_
    refine zz_iload dX5_keeps_12 rfl ?_
    refine zz_iload_n dX5_keeps_14 rfl ?_
    refine zz_callV1 (ci := 5) (m_leads hr hk hi) dX5_keeps_15 zw_m_X5_66 wYX5_leads wDX5_leads rfl (by omega) pm_o rfl (Nat.le_of_ble_eq_true rfl) (by decide) rfl ?_
    refine zz_istore dX5_keeps_18 (by decide) ?_
    refine zz_iload_n dX5_keeps_20 rfl ?_
    refine zz_tableIn (tgt := 73) dX5_keeps_21 (by decide) (by decide) rfl (by decide) ?_
    refine zz_iload_n dX5_keeps_73 rfl ?_
    refine zz_iload dX5_keeps_74 rfl ?_
    refine zz_icmp_ne (tgt := 84) dX5_keeps_76 (by decide) (fun _ => ?_) (fun q => absurd q hee)
    refine zz_iconst (v := 1) dX5_keeps_84 (by decide) ?_
    refine zz_goto (tgt := 89) dX5_keeps_85 (by decide) ?_
    refine zz_zret dX5_keeps_89 rfl (by first | rfl | exact zB_nar _) ?_
    refine ⟨?_, rfl⟩
    rw [hd]
    simp_all [zB_0, zB_n, zB, kpV]
  · have hd : decide (i = k) = true := decide_eq_true ((nI_i hi hk).mp hee)
    refine zz_start wPX5_keeps rfl rfl (Nat.le_of_ble_eq_true rfl) ?_
    refine zz_aload_n dX5_keeps_0 rfl ?_
    refine zz_iload_n dX5_keeps_1 rfl ?_
    refine zz_iload_n dX5_keeps_2 rfl ?_
    refine zz_iload dX5_keeps_3 rfl ?_
    refine zz_callV1 (ci := 5) (m_leads hr hi hk) dX5_keeps_5 zw_m_X5_66 wYX5_leads wDX5_leads rfl (by omega) pm_o rfl (Nat.le_of_ble_eq_true rfl) (by decide) rfl ?_
    refine zz_istore dX5_keeps_8 (by decide) ?_
    refine zz_aload_n dX5_keeps_10 rfl ?_
    refine zz_iload_n dX5_keeps_11 rfl ?_
    refine zz_iload dX5_keeps_12 rfl ?_
    refine zz_iload_n dX5_keeps_14 rfl ?_
    refine zz_callV1 (ci := 5) (m_leads hr hk hi) dX5_keeps_15 zw_m_X5_66 wYX5_leads wDX5_leads rfl (by omega) pm_o rfl (Nat.le_of_ble_eq_true rfl) (by decide) rfl ?_
    refine zz_istore dX5_keeps_18 (by decide) ?_
    refine zz_iload_n dX5_keeps_20 rfl ?_
    refine zz_tableIn (tgt := 90) dX5_keeps_21 (by decide) (by decide) rfl (by decide) ?_
    refine zz_iload dX5_keeps_90 rfl ?_
    refine zz_iload dX5_keeps_92 rfl ?_
    refine zz_icmp_ne (tgt := 101) dX5_keeps_94 (by decide) (fun h94 => ?_) (fun h94 => ?_)
    · refine zz_iconst (v := 0) dX5_keeps_101 (by decide) ?_
      refine zz_zret dX5_keeps_102 rfl (by first | rfl | exact zB_nar _) ?_
      refine ⟨?_, rfl⟩
      show _ = Sum.inl (some (Value.int (zB (MB 55 (6400 * r + 80 * i + k) == MB 55 (6400 * r + 80 * k + i)))))
      first | (rw [show (MB 55 (6400 * r + 80 * i + k) == MB 55 (6400 * r + 80 * k + i)) = false from beq_eq_false_iff_ne.mpr (fun q => h94 (zB_i.mpr q))]; rfl) | (rw [show (MB 55 (6400 * r + 80 * i + k) == MB 55 (6400 * r + 80 * k + i)) = true from beq_iff_eq.mpr (zB_i.mp h94)]; rfl)
    · refine zz_iconst (v := 1) dX5_keeps_97 (by decide) ?_
      refine zz_goto (tgt := 102) dX5_keeps_98 (by decide) ?_
      refine zz_zret dX5_keeps_102 rfl (by first | rfl | exact zB_nar _) ?_
      refine ⟨?_, rfl⟩
      show _ = Sum.inl (some (Value.int (zB (MB 55 (6400 * r + 80 * i + k) == MB 55 (6400 * r + 80 * k + i)))))
      first | (rw [show (MB 55 (6400 * r + 80 * i + k) == MB 55 (6400 * r + 80 * k + i)) = false from beq_eq_false_iff_ne.mpr (fun q => h94 (zB_i.mpr q))]; rfl) | (rw [show (MB 55 (6400 * r + 80 * i + k) == MB 55 (6400 * r + 80 * k + i)) = true from beq_iff_eq.mpr (zB_i.mp h94)]; rfl)
  · have hd : decide (i = k) = false := decide_eq_false (fun q => hee ((nI_i hi hk).mpr q))
    refine zz_start wPX5_keeps rfl rfl (Nat.le_of_ble_eq_true rfl) ?_
    refine zz_aload_n dX5_keeps_0 rfl ?_
    refine zz_iload_n dX5_keeps_1 rfl ?_
    refine zz_iload_n dX5_keeps_2 rfl ?_
    refine zz_iload dX5_keeps_3 rfl ?_
    refine zz_callV1 (ci := 5) (m_leads hr hi hk) dX5_keeps_5 zw_m_X5_66 wYX5_leads wDX5_leads rfl (by omega) pm_o rfl (Nat.le_of_ble_eq_true rfl) (by decide) rfl ?_
    refine zz_istore dX5_keeps_8 (by decide) ?_
    refine zz_aload_n dX5_keeps_10 rfl ?_
    refine zz_iload_n dX5_keeps_11 rfl ?_
    refine zz_iload dX5_keeps_12 rfl ?_
    refine zz_iload_n dX5_keeps_14 rfl ?_
    refine zz_callV1 (ci := 5) (m_leads hr hk hi) dX5_keeps_15 zw_m_X5_66 wYX5_leads wDX5_leads rfl (by omega) pm_o rfl (Nat.le_of_ble_eq_true rfl) (by decide) rfl ?_
    refine zz_istore dX5_keeps_18 (by decide) ?_
    refine zz_iload_n dX5_keeps_20 rfl ?_
    refine zz_tableIn (tgt := 90) dX5_keeps_21 (by decide) (by decide) rfl (by decide) ?_
    refine zz_iload dX5_keeps_90 rfl ?_
    refine zz_iload dX5_keeps_92 rfl ?_
    refine zz_icmp_ne (tgt := 101) dX5_keeps_94 (by decide) (fun h94 => ?_) (fun h94 => ?_)
    · refine zz_iconst (v := 0) dX5_keeps_101 (by decide) ?_
      refine zz_zret dX5_keeps_102 rfl (by first | rfl | exact zB_nar _) ?_
      refine ⟨?_, rfl⟩
      show _ = Sum.inl (some (Value.int (zB (MB 55 (6400 * r + 80 * i + k) == MB 55 (6400 * r + 80 * k + i)))))
      first | (rw [show (MB 55 (6400 * r + 80 * i + k) == MB 55 (6400 * r + 80 * k + i)) = false from beq_eq_false_iff_ne.mpr (fun q => h94 (zB_i.mpr q))]; rfl) | (rw [show (MB 55 (6400 * r + 80 * i + k) == MB 55 (6400 * r + 80 * k + i)) = true from beq_iff_eq.mpr (zB_i.mp h94)]; rfl)
    · refine zz_iconst (v := 1) dX5_keeps_97 (by decide) ?_
      refine zz_goto (tgt := 102) dX5_keeps_98 (by decide) ?_
      refine zz_zret dX5_keeps_102 rfl (by first | rfl | exact zB_nar _) ?_
      refine ⟨?_, rfl⟩
      show _ = Sum.inl (some (Value.int (zB (MB 55 (6400 * r + 80 * i + k) == MB 55 (6400 * r + 80 * k + i)))))
      first | (rw [show (MB 55 (6400 * r + 80 * i + k) == MB 55 (6400 * r + 80 * k + i)) = false from beq_eq_false_iff_ne.mpr (fun q => h94 (zB_i.mpr q))]; rfl) | (rw [show (MB 55 (6400 * r + 80 * i + k) == MB 55 (6400 * r + 80 * k + i)) = true from beq_iff_eq.mpr (zB_i.mp h94)]; rfl)
  · have hd : decide (i = k) = true := decide_eq_true ((nI_i hi hk).mp hee)
    refine zz_start wPX5_keeps rfl rfl (Nat.le_of_ble_eq_true rfl) ?_
    refine zz_aload_n dX5_keeps_0 rfl ?_
    refine zz_iload_n dX5_keeps_1 rfl ?_
    refine zz_iload_n dX5_keeps_2 rfl ?_
    refine zz_iload dX5_keeps_3 rfl ?_
    refine zz_callV1 (ci := 5) (m_leads hr hi hk) dX5_keeps_5 zw_m_X5_66 wYX5_leads wDX5_leads rfl (by omega) pm_o rfl (Nat.le_of_ble_eq_true rfl) (by decide) rfl ?_
    refine zz_istore dX5_keeps_8 (by decide) ?_
    refine zz_aload_n dX5_keeps_10 rfl ?_
    refine zz_iload_n dX5_keeps_11 rfl ?_
    refine zz_iload dX5_keeps_12 rfl ?_
    refine zz_iload_n dX5_keeps_14 rfl ?_
    refine zz_callV1 (ci := 5) (m_leads hr hk hi) dX5_keeps_15 zw_m_X5_66 wYX5_leads wDX5_leads rfl (by omega) pm_o rfl (Nat.le_of_ble_eq_true rfl) (by decide) rfl ?_
    refine zz_istore dX5_keeps_18 (by decide) ?_
    refine zz_iload_n dX5_keeps_20 rfl ?_
    refine zz_tableIn (tgt := 103) dX5_keeps_21 (by decide) (by decide) rfl (by decide) ?_
    refine zz_iload_n dX5_keeps_103 rfl ?_
    refine zz_iload dX5_keeps_104 rfl ?_
    refine zz_icmp_eq (tgt := 119) dX5_keeps_106 (by decide) (fun _ => ?_) (fun q => absurd hee q)
    refine zz_iconst (v := 1) dX5_keeps_119 (by decide) ?_
    refine zz_goto (tgt := 124) dX5_keeps_120 (by decide) ?_
    refine zz_zret dX5_keeps_124 rfl (by first | rfl | exact zB_nar _) ?_
    refine ⟨?_, rfl⟩
    rw [hd]
    simp_all [zB_0, zB_n, zB, kpV]
  · have hd : decide (i = k) = false := decide_eq_false (fun q => hee ((nI_i hi hk).mpr q))
    refine zz_start wPX5_keeps rfl rfl (Nat.le_of_ble_eq_true rfl) ?_
    refine zz_aload_n dX5_keeps_0 rfl ?_
    refine zz_iload_n dX5_keeps_1 rfl ?_
    refine zz_iload_n dX5_keeps_2 rfl ?_
    refine zz_iload dX5_keeps_3 rfl ?_
    refine zz_callV1 (ci := 5) (m_leads hr hi hk) dX5_keeps_5 zw_m_X5_66 wYX5_leads wDX5_leads rfl (by omega) pm_o rfl (Nat.le_of_ble_eq_true rfl) (by decide) rfl ?_
    refine zz_istore dX5_keeps_8 (by decide) ?_
    refine zz_aload_n dX5_keeps_10 rfl ?_
    refine zz_iload_n dX5_keeps_11 rfl ?_
    refine zz_iload dX5_keeps_12 rfl ?_
    refine zz_iload_n dX5_keeps_14 rfl ?_
    refine zz_callV1 (ci := 5) (m_leads hr hk hi) dX5_keeps_15 zw_m_X5_66 wYX5_leads wDX5_leads rfl (by omega) pm_o rfl (Nat.le_of_ble_eq_true rfl) (by decide) rfl ?_
    refine zz_istore dX5_keeps_18 (by decide) ?_
    refine zz_iload_n dX5_keeps_20 rfl ?_
    refine zz_tableIn (tgt := 103) dX5_keeps_21 (by decide) (by decide) rfl (by decide) ?_
    refine zz_iload_n dX5_keeps_103 rfl ?_
    refine zz_iload dX5_keeps_104 rfl ?_
    refine zz_icmp_eq (tgt := 119) dX5_keeps_106 (by decide) (fun q => absurd q hee) (fun _ => ?_)
    refine zz_iload dX5_keeps_109 rfl ?_
    refine zz_if_eq (tgt := 119) dX5_keeps_111 (by decide) (fun h111 => ?_) (fun h111 => ?_)
    · refine zz_iconst (v := 1) dX5_keeps_119 (by decide) ?_
      refine zz_goto (tgt := 124) dX5_keeps_120 (by decide) ?_
      refine zz_zret dX5_keeps_124 rfl (by first | rfl | exact zB_nar _) ?_
      refine ⟨?_, rfl⟩
      rw [hd]
      simp_all [zB_0, zB_n, zB, kpV]
    · refine zz_iload dX5_keeps_114 rfl ?_
      refine zz_if_ne (tgt := 123) dX5_keeps_116 (by decide) (fun h116 => ?_) (fun h116 => ?_)
      · refine zz_iconst (v := 0) dX5_keeps_123 (by decide) ?_
        refine zz_zret dX5_keeps_124 rfl (by first | rfl | exact zB_nar _) ?_
        refine ⟨?_, rfl⟩
        rw [hd]
        simp_all [zB_0, zB_n, zB, kpV]
      · refine zz_iconst (v := 1) dX5_keeps_119 (by decide) ?_
        refine zz_goto (tgt := 124) dX5_keeps_120 (by decide) ?_
        refine zz_zret dX5_keeps_124 rfl (by first | rfl | exact zB_nar _) ?_
        refine ⟨?_, rfl⟩
        rw [hd]
        simp_all [zB_0, zB_n, zB, kpV]
  · have hd : decide (i = k) = true := decide_eq_true ((nI_i hi hk).mp hee)
    refine zz_start wPX5_keeps rfl rfl (Nat.le_of_ble_eq_true rfl) ?_
    refine zz_aload_n dX5_keeps_0 rfl ?_
    refine zz_iload_n dX5_keeps_1 rfl ?_
    refine zz_iload_n dX5_keeps_2 rfl ?_
    refine zz_iload dX5_keeps_3 rfl ?_
    refine zz_callV1 (ci := 5) (m_leads hr hi hk) dX5_keeps_5 zw_m_X5_66 wYX5_leads wDX5_leads rfl (by omega) pm_o rfl (Nat.le_of_ble_eq_true rfl) (by decide) rfl ?_
    refine zz_istore dX5_keeps_8 (by decide) ?_
    refine zz_aload_n dX5_keeps_10 rfl ?_
    refine zz_iload_n dX5_keeps_11 rfl ?_
    refine zz_iload dX5_keeps_12 rfl ?_
    refine zz_iload_n dX5_keeps_14 rfl ?_
    refine zz_callV1 (ci := 5) (m_leads hr hk hi) dX5_keeps_15 zw_m_X5_66 wYX5_leads wDX5_leads rfl (by omega) pm_o rfl (Nat.le_of_ble_eq_true rfl) (by decide) rfl ?_
    refine zz_istore dX5_keeps_18 (by decide) ?_
    refine zz_iload_n dX5_keeps_20 rfl ?_
    refine zz_tableIn (tgt := 125) dX5_keeps_21 (by decide) (by decide) rfl (by decide) ?_
    refine zz_iload dX5_keeps_125 rfl ?_
    refine zz_if_ne (tgt := 145) dX5_keeps_127 (by decide) (fun h127 => ?_) (fun h127 => ?_)
    · refine zz_iconst (v := 1) dX5_keeps_145 (by decide) ?_
      refine zz_goto (tgt := 150) dX5_keeps_146 (by decide) ?_
      refine zz_zret dX5_keeps_150 rfl (by first | rfl | exact zB_nar _) ?_
      refine ⟨?_, rfl⟩
      rw [hd]
      simp_all [zB_0, zB_n, zB, kpV]
    · refine zz_aload_n dX5_keeps_130 rfl ?_
      refine zz_get (ci := 5) (j := 4) zz_inX5 rfl zw_f_X5_20 rfl (by decide) dX5_keeps_131 (by omega) pm_o rfl ?_
      refine zz_bipush (v := 80) dX5_keeps_134 (by decide) ?_
      refine zz_iload_n dX5_keeps_136 rfl ?_
      refine zz_imul dX5_keeps_137 ?_
      refine zz_iload dX5_keeps_138 rfl ?_
      refine zz_iadd dX5_keeps_140 ?_
      refine zz_tope (y := nI (80 * i + k)) (by simp only [i80, i6400, pk_mul, nI_add, nI_1]) ?_
      refine zl_mb dX5_keeps_141 (by omega) (by simp only [ml55, ml56, ml57, ml58, ml59, ml60, ml61]; omega) (by simp only [ml55, ml56, ml57, ml58, ml59, ml60, ml61]; omega) ?_
      refine zz_if_ne (tgt := 149) dX5_keeps_142 (by decide) (fun h142 => ?_) (fun h142 => ?_)
      · refine zz_iconst (v := 0) dX5_keeps_149 (by decide) ?_
        refine zz_zret dX5_keeps_150 rfl (by first | rfl | exact zB_nar _) ?_
        refine ⟨?_, rfl⟩
        rw [hd]
        simp_all [zB_0, zB_n, zB, kpV]
      · refine zz_iconst (v := 1) dX5_keeps_145 (by decide) ?_
        refine zz_goto (tgt := 150) dX5_keeps_146 (by decide) ?_
        refine zz_zret dX5_keeps_150 rfl (by first | rfl | exact zB_nar _) ?_
        refine ⟨?_, rfl⟩
        rw [hd]
        simp_all [zB_0, zB_n, zB, kpV]
  · have hd : decide (i = k) = false := decide_eq_false (fun q => hee ((nI_i hi hk).mpr q))
    refine zz_start wPX5_keeps rfl rfl (Nat.le_of_ble_eq_true rfl) ?_
    refine zz_aload_n dX5_keeps_0 rfl ?_
    refine zz_iload_n dX5_keeps_1 rfl ?_
    refine zz_iload_n dX5_keeps_2 rfl ?_
    refine zz_iload dX5_keeps_3 rfl ?_
    refine zz_callV1 (ci := 5) (m_leads hr hi hk) dX5_keeps_5 zw_m_X5_66 wYX5_leads wDX5_leads rfl (by omega) pm_o rfl (Nat.le_of_ble_eq_true rfl) (by decide) rfl ?_
    refine zz_istore dX5_keeps_8 (by decide) ?_
    refine zz_aload_n dX5_keeps_10 rfl ?_
    refine zz_iload_n dX5_keeps_11 rfl ?_
    refine zz_iload dX5_keeps_12 rfl ?_
    refine zz_iload_n dX5_keeps_14 rfl ?_
    refine zz_callV1 (ci := 5) (m_leads hr hk hi) dX5_keeps_15 zw_m_X5_66 wYX5_leads wDX5_leads rfl (by omega) pm_o rfl (Nat.le_of_ble_eq_true rfl) (by decide) rfl ?_
    refine zz_istore dX5_keeps_18 (by decide) ?_
    refine zz_iload_n dX5_keeps_20 rfl ?_
    refine zz_tableIn (tgt := 125) dX5_keeps_21 (by decide) (by decide) rfl (by decide) ?_
    refine zz_iload dX5_keeps_125 rfl ?_
    refine zz_if_ne (tgt := 145) dX5_keeps_127 (by decide) (fun h127 => ?_) (fun h127 => ?_)
    · refine zz_iconst (v := 1) dX5_keeps_145 (by decide) ?_
      refine zz_goto (tgt := 150) dX5_keeps_146 (by decide) ?_
      refine zz_zret dX5_keeps_150 rfl (by first | rfl | exact zB_nar _) ?_
      refine ⟨?_, rfl⟩
      rw [hd]
      simp_all [zB_0, zB_n, zB, kpV]
    · refine zz_aload_n dX5_keeps_130 rfl ?_
      refine zz_get (ci := 5) (j := 4) zz_inX5 rfl zw_f_X5_20 rfl (by decide) dX5_keeps_131 (by omega) pm_o rfl ?_
      refine zz_bipush (v := 80) dX5_keeps_134 (by decide) ?_
      refine zz_iload_n dX5_keeps_136 rfl ?_
      refine zz_imul dX5_keeps_137 ?_
      refine zz_iload dX5_keeps_138 rfl ?_
      refine zz_iadd dX5_keeps_140 ?_
      refine zz_tope (y := nI (80 * i + k)) (by simp only [i80, i6400, pk_mul, nI_add, nI_1]) ?_
      refine zl_mb dX5_keeps_141 (by omega) (by simp only [ml55, ml56, ml57, ml58, ml59, ml60, ml61]; omega) (by simp only [ml55, ml56, ml57, ml58, ml59, ml60, ml61]; omega) ?_
      refine zz_if_ne (tgt := 149) dX5_keeps_142 (by decide) (fun h142 => ?_) (fun h142 => ?_)
      · refine zz_iconst (v := 0) dX5_keeps_149 (by decide) ?_
        refine zz_zret dX5_keeps_150 rfl (by first | rfl | exact zB_nar _) ?_
        refine ⟨?_, rfl⟩
        rw [hd]
        simp_all [zB_0, zB_n, zB, kpV]
      · refine zz_iconst (v := 1) dX5_keeps_145 (by decide) ?_
        refine zz_goto (tgt := 150) dX5_keeps_146 (by decide) ?_
        refine zz_zret dX5_keeps_150 rfl (by first | rfl | exact zB_nar _) ?_
        refine ⟨?_, rfl⟩
        rw [hd]
        simp_all [zB_0, zB_n, zB, kpV]
  · have hd : decide (i = k) = true := decide_eq_true ((nI_i hi hk).mp hee)
    refine zz_start wPX5_keeps rfl rfl (Nat.le_of_ble_eq_true rfl) ?_
    refine zz_aload_n dX5_keeps_0 rfl ?_
    refine zz_iload_n dX5_keeps_1 rfl ?_
    refine zz_iload_n dX5_keeps_2 rfl ?_
    refine zz_iload dX5_keeps_3 rfl ?_
    refine zz_callV1 (ci := 5) (m_leads hr hi hk) dX5_keeps_5 zw_m_X5_66 wYX5_leads wDX5_leads rfl (by omega) pm_o rfl (Nat.le_of_ble_eq_true rfl) (by decide) rfl ?_
    refine zz_istore dX5_keeps_8 (by decide) ?_
    refine zz_aload_n dX5_keeps_10 rfl ?_
    refine zz_iload_n dX5_keeps_11 rfl ?_
    refine zz_iload dX5_keeps_12 rfl ?_
    refine zz_iload_n dX5_keeps_14 rfl ?_
    refine zz_callV1 (ci := 5) (m_leads hr hk hi) dX5_keeps_15 zw_m_X5_66 wYX5_leads wDX5_leads rfl (by omega) pm_o rfl (Nat.le_of_ble_eq_true rfl) (by decide) rfl ?_
    refine zz_istore dX5_keeps_18 (by decide) ?_
    refine zz_iload_n dX5_keeps_20 rfl ?_
    refine zz_tableOut (tgt := 151) dX5_keeps_21 (Or.inr (by decide)) (by decide) ?_
    refine zz_iload_n dX5_keeps_151 rfl ?_
    refine zz_iload dX5_keeps_152 rfl ?_
    refine zz_icmp_eq (tgt := 167) dX5_keeps_154 (by decide) (fun _ => ?_) (fun q => absurd hee q)
    refine zz_iconst (v := 1) dX5_keeps_167 (by decide) ?_
    refine zz_goto (tgt := 172) dX5_keeps_168 (by decide) ?_
    refine zz_zret dX5_keeps_172 rfl (by first | rfl | exact zB_nar _) ?_
    refine ⟨?_, rfl⟩
    rw [hd]
    simp_all [zB_0, zB_n, zB, kpV]
  · have hd : decide (i = k) = false := decide_eq_false (fun q => hee ((nI_i hi hk).mpr q))
    refine zz_start wPX5_keeps rfl rfl (Nat.le_of_ble_eq_true rfl) ?_
    refine zz_aload_n dX5_keeps_0 rfl ?_
    refine zz_iload_n dX5_keeps_1 rfl ?_
    refine zz_iload_n dX5_keeps_2 rfl ?_
    refine zz_iload dX5_keeps_3 rfl ?_
    refine zz_callV1 (ci := 5) (m_leads hr hi hk) dX5_keeps_5 zw_m_X5_66 wYX5_leads wDX5_leads rfl (by omega) pm_o rfl (Nat.le_of_ble_eq_true rfl) (by decide) rfl ?_
    refine zz_istore dX5_keeps_8 (by decide) ?_
    refine zz_aload_n dX5_keeps_10 rfl ?_
    refine zz_iload_n dX5_keeps_11 rfl ?_
    refine zz_iload dX5_keeps_12 rfl ?_
    refine zz_iload_n dX5_keeps_14 rfl ?_
    refine zz_callV1 (ci := 5) (m_leads hr hk hi) dX5_keeps_15 zw_m_X5_66 wYX5_leads wDX5_leads rfl (by omega) pm_o rfl (Nat.le_of_ble_eq_true rfl) (by decide) rfl ?_
    refine zz_istore dX5_keeps_18 (by decide) ?_
    refine zz_iload_n dX5_keeps_20 rfl ?_
    refine zz_tableOut (tgt := 151) dX5_keeps_21 (Or.inr (by decide)) (by decide) ?_
    refine zz_iload_n dX5_keeps_151 rfl ?_
    refine zz_iload dX5_keeps_152 rfl ?_
    refine zz_icmp_eq (tgt := 167) dX5_keeps_154 (by decide) (fun q => absurd q hee) (fun _ => ?_)
    refine zz_iload dX5_keeps_157 rfl ?_
    refine zz_if_ne (tgt := 167) dX5_keeps_159 (by decide) (fun h159 => ?_) (fun h159 => ?_)
    · refine zz_iconst (v := 1) dX5_keeps_167 (by decide) ?_
      refine zz_goto (tgt := 172) dX5_keeps_168 (by decide) ?_
      refine zz_zret dX5_keeps_172 rfl (by first | rfl | exact zB_nar _) ?_
      refine ⟨?_, rfl⟩
      rw [hd]
      simp_all [zB_0, zB_n, zB, kpV]
    · refine zz_iload dX5_keeps_162 rfl ?_
      refine zz_if_eq (tgt := 171) dX5_keeps_164 (by decide) (fun h164 => ?_) (fun h164 => ?_)
      · refine zz_iconst (v := 0) dX5_keeps_171 (by decide) ?_
        refine zz_zret dX5_keeps_172 rfl (by first | rfl | exact zB_nar _) ?_
        refine ⟨?_, rfl⟩
        rw [hd]
        simp_all [zB_0, zB_n, zB, kpV]
      · refine zz_iconst (v := 1) dX5_keeps_167 (by decide) ?_
        refine zz_goto (tgt := 172) dX5_keeps_168 (by decide) ?_
        refine zz_zret dX5_keeps_172 rfl (by first | rfl | exact zB_nar _) ?_
        refine ⟨?_, rfl⟩
        rw [hd]
        simp_all [zB_0, zB_n, zB, kpV]
set_option maxHeartbeats 1000000 in
set_option maxRecDepth 20000 in
theorem ml_isI {Q : zz_Q} {r : Nat} (hr : r < 4) (hn : n ≤ 80) {w : Nat} (hw : w < 6) {a : Nat} (ha : a < n) (K : zz_E mX5_is none 3 0 0 Q 90 [(4, .int (nI a)), (3, .int (zB (alb (fun k => kpV (MB 55 (6400 * r + 80 * a + k)) (MB 55 (6400 * r + 80 * k + a)) (MB 57 (80 * a + k)) (decide (a = k)) w) n))), (0, .ref 54), (1, .int (nI r)), (2, .int (nI w))] [] (pm MB MI (nI n) mt T)) : ∀ (m i : Nat), i + m = n → zz_E mX5_is none 3 0 0 (Q) 60 [(5, .int (nI i)), (4, .int (nI a)), (3, .int (zB (alb (fun k => kpV (MB 55 (6400 * r + 80 * a + k)) (MB 55 (6400 * r + 80 * k + a)) (MB 57 (80 * a + k)) (decide (a = k)) w) i))), (0, .ref 54), (1, .int (nI r)), (2, .int (nI w))] [] (pm MB MI (nI n) mt T) := by
  intro m
  induction m with
  | zero =>
    intro i hi
    have hi : n = i := by omega
    subst hi
    refine zz_iload dX5_is_60 rfl ?_
    refine zz_aload_n dX5_is_62 rfl ?_
    refine zz_get (ci := 5) (j := 2) zz_inX5 rfl zw_f_X5_16 rfl (by decide) dX5_is_63 (by omega) pm_o rfl ?_
    refine zz_icmp_ge (tgt := 90) dX5_is_66 (by decide) (fun _ => ?_) (fun h => absurd (nI_le (by omega) (by omega)) h)
    refine zz_lvs (lv2 := [(4, .int (nI a)), (3, .int (zB (alb (fun k => kpV (MB 55 (6400 * r + 80 * a + k)) (MB 55 (6400 * r + 80 * k + a)) (MB 57 (80 * a + k)) (decide (a = k)) w) n))), (0, .ref 54), (1, .int (nI r)), (2, .int (nI w))]) (fun q hq => by simp only [List.mem_cons, List.not_mem_nil, or_false] at hq; rcases hq with rfl | rfl | rfl | rfl | rfl <;> simp [zz_up1, zz_up2, Value.category]) ?_
    exact K
  | succ m ih =>
    intro i hi
    refine zz_iload dX5_is_60 rfl ?_
    refine zz_aload_n dX5_is_62 rfl ?_
    refine zz_get (ci := 5) (j := 2) zz_inX5 rfl zw_f_X5_16 rfl (by decide) dX5_is_63 (by omega) pm_o rfl ?_
    refine zz_icmp_ge (tgt := 90) dX5_is_66 (by decide) (fun h => absurd h (nI_ge (by omega) (by omega))) (fun _ => ?_)
    refine zz_iload_n dX5_is_69 rfl ?_
    refine zz_if_eq (tgt := 90) dX5_is_70 (by decide) (fun h70 => ?_) (fun h70 => ?_)
    · have e9 : alb (fun k => kpV (MB 55 (6400 * r + 80 * a + k)) (MB 55 (6400 * r + 80 * k + a)) (MB 57 (80 * a + k)) (decide (a = k)) w) n = alb (fun k => kpV (MB 55 (6400 * r + 80 * a + k)) (MB 55 (6400 * r + 80 * k + a)) (MB 57 (80 * a + k)) (decide (a = k)) w) i := (alb_m (show i ≤ n by omega) (zB_0.mp h70)).trans (zB_0.mp h70).symm
      rw [e9] at K
      refine zz_lvs (lv2 := [(4, .int (nI a)), (3, .int (zB (alb (fun k => kpV (MB 55 (6400 * r + 80 * a + k)) (MB 55 (6400 * r + 80 * k + a)) (MB 57 (80 * a + k)) (decide (a = k)) w) i))), (0, .ref 54), (1, .int (nI r)), (2, .int (nI w))]) (fun q hq => by simp only [List.mem_cons, List.not_mem_nil, or_false] at hq; rcases hq with rfl | rfl | rfl | rfl | rfl <;> simp [zz_up1, zz_up2, Value.category]) ?_
      exact K
    · refine zz_aload_n dX5_is_73 rfl ?_
      refine zz_iload_n dX5_is_74 rfl ?_
      refine zz_iload_n dX5_is_75 rfl ?_
      refine zz_iload dX5_is_76 rfl ?_
      refine zz_iload dX5_is_78 rfl ?_
      refine zz_callV1 (ci := 5) (m_keeps hr (show a < 80 by omega) (show i < 80 by omega) hw) dX5_is_80 zw_m_X5_118 wYX5_keeps wDX5_keeps rfl (by omega) pm_o rfl (Nat.le_of_ble_eq_true rfl) (by decide) rfl ?_
      refine zz_istore_n dX5_is_83 (by decide) ?_
      refine zz_iinc (v := nI (i + 1)) dX5_is_84 rfl (nI_1 i) (by decide) ?_
      refine zz_goto (tgt := 60) dX5_is_87 (by decide) ?_
      have h9 := ih (i + 1) (by omega)
      rw [alb_s (zB_n.mp h70)] at h9
      refine zz_lvs (fun q hq => ?_) h9
      simp only [List.mem_cons, List.not_mem_nil, or_false] at hq
      rcases hq with rfl | rfl | rfl | rfl | rfl | rfl <;> simp [zz_up1, zz_up2, Value.category, f4_3]
set_option maxHeartbeats 1000000 in
set_option maxRecDepth 20000 in
theorem ml_isO {Q : zz_Q} {r : Nat} (hr : r < 4) (hn : n ≤ 80) {w : Nat} (hw : w < 6) (hQ : Q (.inl (some (.int (zB (alb (fun a => alb (fun k => kpV (MB 55 (6400 * r + 80 * a + k)) (MB 55 (6400 * r + 80 * k + a)) (MB 57 (80 * a + k)) (decide (a = k)) w) n) n))))) (pm MB MI (nI n) 0 T)) : ∀ (m i : Nat), i + m = n → zz_E mX5_is none 3 0 0 (Q) 44 [(4, .int (nI i)), (3, .int (zB (alb (fun a => alb (fun k => kpV (MB 55 (6400 * r + 80 * a + k)) (MB 55 (6400 * r + 80 * k + a)) (MB 57 (80 * a + k)) (decide (a = k)) w) n) i))), (0, .ref 54), (1, .int (nI r)), (2, .int (nI w))] [] (pm MB MI (nI n) mt T) := by
  intro m
  induction m with
  | zero =>
    intro i hi
    have hi : n = i := by omega
    subst hi
    refine zz_iload dX5_is_44 rfl ?_
    refine zz_aload_n dX5_is_46 rfl ?_
    refine zz_get (ci := 5) (j := 2) zz_inX5 rfl zw_f_X5_16 rfl (by decide) dX5_is_47 (by omega) pm_o rfl ?_
    refine zz_icmp_ge (tgt := 96) dX5_is_50 (by decide) (fun _ => ?_) (fun h => absurd (nI_le (by omega) (by omega)) h)
    refine zz_aload_n dX5_is_96 rfl ?_
    refine zz_iload_n dX5_is_97 rfl ?_
    refine zz_callV1 (ci := 5) (m_says _) dX5_is_98 zw_m_X5_90 wYX5_says wDX5_says rfl (by omega) pm_o rfl (Nat.le_of_ble_eq_true rfl) (by decide) rfl ?_
    refine zz_zret dX5_is_101 rfl (by first | rfl | exact zB_nar _) ?_
    exact hQ
  | succ m ih =>
    intro i hi
    refine zz_iload dX5_is_44 rfl ?_
    refine zz_aload_n dX5_is_46 rfl ?_
    refine zz_get (ci := 5) (j := 2) zz_inX5 rfl zw_f_X5_16 rfl (by decide) dX5_is_47 (by omega) pm_o rfl ?_
    refine zz_icmp_ge (tgt := 96) dX5_is_50 (by decide) (fun h => absurd h (nI_ge (by omega) (by omega))) (fun _ => ?_)
    refine zz_iload_n dX5_is_53 rfl ?_
    refine zz_if_eq (tgt := 96) dX5_is_54 (by decide) (fun h54 => ?_) (fun h54 => ?_)
    · refine zz_aload_n dX5_is_96 rfl ?_
      refine zz_iload_n dX5_is_97 rfl ?_
      refine zz_callV1 (ci := 5) (m_says _) dX5_is_98 zw_m_X5_90 wYX5_says wDX5_says rfl (by omega) pm_o rfl (Nat.le_of_ble_eq_true rfl) (by decide) rfl ?_
      refine zz_zret dX5_is_101 rfl (by first | rfl | exact zB_nar _) ?_
      have e9 : alb (fun a => alb (fun k => kpV (MB 55 (6400 * r + 80 * a + k)) (MB 55 (6400 * r + 80 * k + a)) (MB 57 (80 * a + k)) (decide (a = k)) w) n) n = alb (fun a => alb (fun k => kpV (MB 55 (6400 * r + 80 * a + k)) (MB 55 (6400 * r + 80 * k + a)) (MB 57 (80 * a + k)) (decide (a = k)) w) n) i := (alb_m (show i ≤ n by omega) (zB_0.mp h54)).trans (zB_0.mp h54).symm
      rw [e9] at hQ
      exact hQ
    · refine zz_iconst (v := 0) dX5_is_57 (by decide) ?_
      refine zz_istore dX5_is_58 (by decide) ?_
      refine zz_lvs (lv2 := [(5, .int 0), (4, .int (nI i)), (3, .int (zB (alb (fun a => alb (fun k => kpV (MB 55 (6400 * r + 80 * a + k)) (MB 55 (6400 * r + 80 * k + a)) (MB 57 (80 * a + k)) (decide (a = k)) w) n) i))), (0, .ref 54), (1, .int (nI r)), (2, .int (nI w))]) (fun q hq => by simp only [List.mem_cons, List.not_mem_nil, or_false] at hq; rcases hq with rfl | rfl | rfl | rfl | rfl | rfl <;> simp [zz_up1, zz_up2, Value.category]) ?_
      rw [zB_n.mp h54]
      refine ml_isI hr hn hw (a := i) (by omega) ?_ n 0 (by omega)
      refine zz_iinc (v := nI (i + 1)) dX5_is_90 rfl (nI_1 i) (by decide) ?_
      refine zz_goto (tgt := 44) dX5_is_93 (by decide) ?_
      have h9 := ih (i + 1) (by omega)
      rw [alb_s (zB_n.mp h54)] at h9
      exact h9
set_option maxHeartbeats 1000000 in
set_option maxRecDepth 20000 in
theorem m_is_v {r : Nat} (hr : r < 4) (hn : n ≤ 80) {w : Nat} (hw : w < 6) : zz_C mX5_is 3 0 0 [.ref 54, .int (nI r), .int (nI w)] (pm MB MI (nI n) mt T) (fun o τ => ∃ S : Nat → Bool, (w = 4 → S = gs (MB 57) 0 n n 0 (cmG (MB 55) r r n)) ∧ o = .inl (some (.int (zB (alb (fun a => alb (fun k => kpV (MB 55 (6400 * r + 80 * a + k)) (MB 55 (6400 * r + 80 * k + a)) (S (80 * a + k)) (decide (a = k)) w) n) n)))) ∧ τ = pm (va_up MB 57 S) MI (nI n) 0 T) := by
  have e1 := isR_t hr
  rcases (show w = 0 ∨ w = 1 ∨ w = 2 ∨ w = 3 ∨ w = 4 ∨ w = 5 by omega) with rfl | rfl | rfl | rfl | rfl | rfl
  · refine zz_start wPX5_is rfl rfl (Nat.le_of_ble_eq_true rfl) ?_
    refine zz_iload_n dX5_is_0 rfl ?_
    refine zz_callS1 (m_isR _) dX5_is_1 zw_m_X5_55 wYX5_isRelation wDX5_isRelation rfl (Nat.le_of_ble_eq_true rfl) (by decide) rfl ?_
    refine zz_if_ne (tgt := 13) dX5_is_4 (by decide) (fun _ => ?_) (fun q => absurd q (by rw [e1]; decide))
    refine zz_iload_n dX5_is_13 rfl ?_
    refine zz_iconst (v := 0) dX5_is_14 (by decide) ?_
    refine zz_iconst (v := 5) dX5_is_15 (by decide) ?_
    refine zz_callS1 (m_in (nI 0) 0 5) dX5_is_16 zw_m_X5_51 wYX5_in wDX5_in rfl (Nat.le_of_ble_eq_true rfl) (by decide) rfl ?_
    refine zz_if_ne (tgt := 28) dX5_is_19 (by decide) (fun _ => ?_) (fun q => absurd q (by rw [show (decide (0 ≤ nI 0) && decide (nI 0 ≤ 5)) = true by decide]; decide))
    refine zz_iload_n dX5_is_28 rfl ?_
    refine zz_iconst (v := 4) dX5_is_29 (by decide) ?_
    refine zz_icmp_ne (tgt := 39) dX5_is_30 (by decide) (fun _ => ?_) (fun q => absurd q (by decide))
    refine zz_iconst (v := 1) dX5_is_39 (by decide) ?_
    refine zz_istore_n dX5_is_40 (by decide) ?_
    refine zz_iconst (v := 0) dX5_is_41 (by decide) ?_
    refine zz_istore dX5_is_42 (by decide) ?_
    have hS : MB = va_up MB 57 (MB 57) := (up_self MB 57).symm
    rw [show pm MB MI (nI n) mt T = pm (va_up MB 57 (MB 57)) MI (nI n) mt T from by rw [up_self]]
    refine ml_isO (MB := va_up MB 57 (MB 57)) (MI := MI) (mt := mt) (T := T) hr hn (w := 0) (by decide) ?_ n 0 (by omega)
    simp only [up_at, up_ne _ _ (show (55 : Nat) ≠ 57 by decide)]
    exact ⟨MB 57, fun h => absurd h (by decide), rfl, rfl⟩
  · refine zz_start wPX5_is rfl rfl (Nat.le_of_ble_eq_true rfl) ?_
    refine zz_iload_n dX5_is_0 rfl ?_
    refine zz_callS1 (m_isR _) dX5_is_1 zw_m_X5_55 wYX5_isRelation wDX5_isRelation rfl (Nat.le_of_ble_eq_true rfl) (by decide) rfl ?_
    refine zz_if_ne (tgt := 13) dX5_is_4 (by decide) (fun _ => ?_) (fun q => absurd q (by rw [e1]; decide))
    refine zz_iload_n dX5_is_13 rfl ?_
    refine zz_iconst (v := 0) dX5_is_14 (by decide) ?_
    refine zz_iconst (v := 5) dX5_is_15 (by decide) ?_
    refine zz_callS1 (m_in (nI 1) 0 5) dX5_is_16 zw_m_X5_51 wYX5_in wDX5_in rfl (Nat.le_of_ble_eq_true rfl) (by decide) rfl ?_
    refine zz_if_ne (tgt := 28) dX5_is_19 (by decide) (fun _ => ?_) (fun q => absurd q (by rw [show (decide (0 ≤ nI 1) && decide (nI 1 ≤ 5)) = true by decide]; decide))
    refine zz_iload_n dX5_is_28 rfl ?_
    refine zz_iconst (v := 4) dX5_is_29 (by decide) ?_
    refine zz_icmp_ne (tgt := 39) dX5_is_30 (by decide) (fun _ => ?_) (fun q => absurd q (by decide))
    refine zz_iconst (v := 1) dX5_is_39 (by decide) ?_
    refine zz_istore_n dX5_is_40 (by decide) ?_
    refine zz_iconst (v := 0) dX5_is_41 (by decide) ?_
    refine zz_istore dX5_is_42 (by decide) ?_
    have hS : MB = va_up MB 57 (MB 57) := (up_self MB 57).symm
    rw [show pm MB MI (nI n) mt T = pm (va_up MB 57 (MB 57)) MI (nI n) mt T from by rw [up_self]]
    refine ml_isO (MB := va_up MB 57 (MB 57)) (MI := MI) (mt := mt) (T := T) hr hn (w := 1) (by decide) ?_ n 0 (by omega)
    simp only [up_at, up_ne _ _ (show (55 : Nat) ≠ 57 by decide)]
    exact ⟨MB 57, fun h => absurd h (by decide), rfl, rfl⟩
  · refine zz_start wPX5_is rfl rfl (Nat.le_of_ble_eq_true rfl) ?_
    refine zz_iload_n dX5_is_0 rfl ?_
    refine zz_callS1 (m_isR _) dX5_is_1 zw_m_X5_55 wYX5_isRelation wDX5_isRelation rfl (Nat.le_of_ble_eq_true rfl) (by decide) rfl ?_
    refine zz_if_ne (tgt := 13) dX5_is_4 (by decide) (fun _ => ?_) (fun q => absurd q (by rw [e1]; decide))
    refine zz_iload_n dX5_is_13 rfl ?_
    refine zz_iconst (v := 0) dX5_is_14 (by decide) ?_
    refine zz_iconst (v := 5) dX5_is_15 (by decide) ?_
    refine zz_callS1 (m_in (nI 2) 0 5) dX5_is_16 zw_m_X5_51 wYX5_in wDX5_in rfl (Nat.le_of_ble_eq_true rfl) (by decide) rfl ?_
    refine zz_if_ne (tgt := 28) dX5_is_19 (by decide) (fun _ => ?_) (fun q => absurd q (by rw [show (decide (0 ≤ nI 2) && decide (nI 2 ≤ 5)) = true by decide]; decide))
    refine zz_iload_n dX5_is_28 rfl ?_
    refine zz_iconst (v := 4) dX5_is_29 (by decide) ?_
    refine zz_icmp_ne (tgt := 39) dX5_is_30 (by decide) (fun _ => ?_) (fun q => absurd q (by decide))
    refine zz_iconst (v := 1) dX5_is_39 (by decide) ?_
    refine zz_istore_n dX5_is_40 (by decide) ?_
    refine zz_iconst (v := 0) dX5_is_41 (by decide) ?_
    refine zz_istore dX5_is_42 (by decide) ?_
    have hS : MB = va_up MB 57 (MB 57) := (up_self MB 57).symm
    rw [show pm MB MI (nI n) mt T = pm (va_up MB 57 (MB 57)) MI (nI n) mt T from by rw [up_self]]
    refine ml_isO (MB := va_up MB 57 (MB 57)) (MI := MI) (mt := mt) (T := T) hr hn (w := 2) (by decide) ?_ n 0 (by omega)
    simp only [up_at, up_ne _ _ (show (55 : Nat) ≠ 57 by decide)]
    exact ⟨MB 57, fun h => absurd h (by decide), rfl, rfl⟩
  · refine zz_start wPX5_is rfl rfl (Nat.le_of_ble_eq_true rfl) ?_
    refine zz_iload_n dX5_is_0 rfl ?_
    refine zz_callS1 (m_isR _) dX5_is_1 zw_m_X5_55 wYX5_isRelation wDX5_isRelation rfl (Nat.le_of_ble_eq_true rfl) (by decide) rfl ?_
    refine zz_if_ne (tgt := 13) dX5_is_4 (by decide) (fun _ => ?_) (fun q => absurd q (by rw [e1]; decide))
    refine zz_iload_n dX5_is_13 rfl ?_
    refine zz_iconst (v := 0) dX5_is_14 (by decide) ?_
    refine zz_iconst (v := 5) dX5_is_15 (by decide) ?_
    refine zz_callS1 (m_in (nI 3) 0 5) dX5_is_16 zw_m_X5_51 wYX5_in wDX5_in rfl (Nat.le_of_ble_eq_true rfl) (by decide) rfl ?_
    refine zz_if_ne (tgt := 28) dX5_is_19 (by decide) (fun _ => ?_) (fun q => absurd q (by rw [show (decide (0 ≤ nI 3) && decide (nI 3 ≤ 5)) = true by decide]; decide))
    refine zz_iload_n dX5_is_28 rfl ?_
    refine zz_iconst (v := 4) dX5_is_29 (by decide) ?_
    refine zz_icmp_ne (tgt := 39) dX5_is_30 (by decide) (fun _ => ?_) (fun q => absurd q (by decide))
    refine zz_iconst (v := 1) dX5_is_39 (by decide) ?_
    refine zz_istore_n dX5_is_40 (by decide) ?_
    refine zz_iconst (v := 0) dX5_is_41 (by decide) ?_
    refine zz_istore dX5_is_42 (by decide) ?_
    have hS : MB = va_up MB 57 (MB 57) := (up_self MB 57).symm
    rw [show pm MB MI (nI n) mt T = pm (va_up MB 57 (MB 57)) MI (nI n) mt T from by rw [up_self]]
    refine ml_isO (MB := va_up MB 57 (MB 57)) (MI := MI) (mt := mt) (T := T) hr hn (w := 3) (by decide) ?_ n 0 (by omega)
    simp only [up_at, up_ne _ _ (show (55 : Nat) ≠ 57 by decide)]
    exact ⟨MB 57, fun h => absurd h (by decide), rfl, rfl⟩
  · refine zz_start wPX5_is rfl rfl (Nat.le_of_ble_eq_true rfl) ?_
    refine zz_iload_n dX5_is_0 rfl ?_
    refine zz_callS1 (m_isR _) dX5_is_1 zw_m_X5_55 wYX5_isRelation wDX5_isRelation rfl (Nat.le_of_ble_eq_true rfl) (by decide) rfl ?_
    refine zz_if_ne (tgt := 13) dX5_is_4 (by decide) (fun _ => ?_) (fun q => absurd q (by rw [e1]; decide))
    refine zz_iload_n dX5_is_13 rfl ?_
    refine zz_iconst (v := 0) dX5_is_14 (by decide) ?_
    refine zz_iconst (v := 5) dX5_is_15 (by decide) ?_
    refine zz_callS1 (m_in (nI 4) 0 5) dX5_is_16 zw_m_X5_51 wYX5_in wDX5_in rfl (Nat.le_of_ble_eq_true rfl) (by decide) rfl ?_
    refine zz_if_ne (tgt := 28) dX5_is_19 (by decide) (fun _ => ?_) (fun q => absurd q (by rw [show (decide (0 ≤ nI 4) && decide (nI 4 ≤ 5)) = true by decide]; decide))
    refine zz_iload_n dX5_is_28 rfl ?_
    refine zz_iconst (v := 4) dX5_is_29 (by decide) ?_
    refine zz_icmp_ne (tgt := 39) dX5_is_30 (by decide) (fun q => absurd (by decide) q) (fun _ => ?_)
    refine zz_aload_n dX5_is_33 rfl ?_
    refine zz_iload_n dX5_is_34 rfl ?_
    refine zz_iload_n dX5_is_35 rfl ?_
    refine zz_callV0 (ci := 5) (m_composes hr hr hn) dX5_is_36 zw_m_X5_98 wYX5_composes wDX5_composes rfl (by omega) pm_o rfl (Nat.le_of_ble_eq_true rfl) (by decide) rfl ?_
    refine zz_iconst (v := 1) dX5_is_39 (by decide) ?_
    refine zz_istore_n dX5_is_40 (by decide) ?_
    refine zz_iconst (v := 0) dX5_is_41 (by decide) ?_
    refine zz_istore dX5_is_42 (by decide) ?_
    have hS : va_up MB 57 (gs (MB 57) 0 n n 0 (cmG (MB 55) r r n)) = va_up MB 57 (gs (MB 57) 0 n n 0 (cmG (MB 55) r r n)) := rfl
    refine ml_isO (MB := va_up MB 57 (gs (MB 57) 0 n n 0 (cmG (MB 55) r r n))) (MI := MI) (mt := mt) (T := T) hr hn (w := 4) (by decide) ?_ n 0 (by omega)
    simp only [up_at, up_ne _ _ (show (55 : Nat) ≠ 57 by decide)]
    exact ⟨gs (MB 57) 0 n n 0 (cmG (MB 55) r r n), fun _ => rfl, rfl, rfl⟩
  · refine zz_start wPX5_is rfl rfl (Nat.le_of_ble_eq_true rfl) ?_
    refine zz_iload_n dX5_is_0 rfl ?_
    refine zz_callS1 (m_isR _) dX5_is_1 zw_m_X5_55 wYX5_isRelation wDX5_isRelation rfl (Nat.le_of_ble_eq_true rfl) (by decide) rfl ?_
    refine zz_if_ne (tgt := 13) dX5_is_4 (by decide) (fun _ => ?_) (fun q => absurd q (by rw [e1]; decide))
    refine zz_iload_n dX5_is_13 rfl ?_
    refine zz_iconst (v := 0) dX5_is_14 (by decide) ?_
    refine zz_iconst (v := 5) dX5_is_15 (by decide) ?_
    refine zz_callS1 (m_in (nI 5) 0 5) dX5_is_16 zw_m_X5_51 wYX5_in wDX5_in rfl (Nat.le_of_ble_eq_true rfl) (by decide) rfl ?_
    refine zz_if_ne (tgt := 28) dX5_is_19 (by decide) (fun _ => ?_) (fun q => absurd q (by rw [show (decide (0 ≤ nI 5) && decide (nI 5 ≤ 5)) = true by decide]; decide))
    refine zz_iload_n dX5_is_28 rfl ?_
    refine zz_iconst (v := 4) dX5_is_29 (by decide) ?_
    refine zz_icmp_ne (tgt := 39) dX5_is_30 (by decide) (fun _ => ?_) (fun q => absurd q (by decide))
    refine zz_iconst (v := 1) dX5_is_39 (by decide) ?_
    refine zz_istore_n dX5_is_40 (by decide) ?_
    refine zz_iconst (v := 0) dX5_is_41 (by decide) ?_
    refine zz_istore dX5_is_42 (by decide) ?_
    have hS : MB = va_up MB 57 (MB 57) := (up_self MB 57).symm
    rw [show pm MB MI (nI n) mt T = pm (va_up MB 57 (MB 57)) MI (nI n) mt T from by rw [up_self]]
    refine ml_isO (MB := va_up MB 57 (MB 57)) (MI := MI) (mt := mt) (T := T) hr hn (w := 5) (by decide) ?_ n 0 (by omega)
    simp only [up_at, up_ne _ _ (show (55 : Nat) ≠ 57 by decide)]
    exact ⟨MB 57, fun h => absurd h (by decide), rfl, rfl⟩
set_option maxHeartbeats 1000000 in
set_option maxRecDepth 20000 in
theorem m_is_x {v : Int32} (h : isR v = false) (z : Int32) : zz_C mX5_is 3 0 0 [.ref 54, .int v, .int z] (pm MB MI (nI n) mt T) (fun o τ => o = .inl (some (.int (zB false))) ∧ τ = pm MB MI (nI n) 1 T) := by
  · refine zz_start wPX5_is rfl rfl (Nat.le_of_ble_eq_true rfl) ?_
    refine zz_iload_n dX5_is_0 rfl ?_
    refine zz_callS1 (m_isR _) dX5_is_1 zw_m_X5_55 wYX5_isRelation wDX5_isRelation rfl (Nat.le_of_ble_eq_true rfl) (by decide) rfl ?_
    refine zz_if_ne (tgt := 13) dX5_is_4 (by decide) (fun q => absurd (by rw [h]; rfl) q) (fun _ => ?_)
    refine zz_aload_n dX5_is_7 rfl ?_
    refine zz_iconst (v := 1) dX5_is_8 (by decide) ?_
    refine zz_callV1 (ci := 5) (m_denies 1) dX5_is_9 zw_m_X5_87 wYX5_denies wDX5_denies rfl (by omega) pm_o rfl (Nat.le_of_ble_eq_true rfl) (by decide) rfl ?_
    refine zz_zret dX5_is_12 rfl (by first | rfl | exact zB_nar _) ?_
    exact ⟨rfl, rfl⟩
def isH (v : Int32) : Bool := decide (0 ≤ v) && decide (v ≤ 5)
set_option maxHeartbeats 1000000 in
set_option maxRecDepth 20000 in
theorem m_is_y {r : Nat} (hr : r < 4) {z : Int32} (h : isH z = false) : zz_C mX5_is 3 0 0 [.ref 54, .int (nI r), .int z] (pm MB MI (nI n) mt T) (fun o τ => o = .inl (some (.int (zB false))) ∧ τ = pm MB MI (nI n) 2 T) := by
  have e1 := isR_t hr
  · refine zz_start wPX5_is rfl rfl (Nat.le_of_ble_eq_true rfl) ?_
    refine zz_iload_n dX5_is_0 rfl ?_
    refine zz_callS1 (m_isR _) dX5_is_1 zw_m_X5_55 wYX5_isRelation wDX5_isRelation rfl (Nat.le_of_ble_eq_true rfl) (by decide) rfl ?_
    refine zz_if_ne (tgt := 13) dX5_is_4 (by decide) (fun _ => ?_) (fun q => absurd q (by rw [e1]; decide))
    refine zz_iload_n dX5_is_13 rfl ?_
    refine zz_iconst (v := 0) dX5_is_14 (by decide) ?_
    refine zz_iconst (v := 5) dX5_is_15 (by decide) ?_
    refine zz_callS1 (m_in z 0 5) dX5_is_16 zw_m_X5_51 wYX5_in wDX5_in rfl (Nat.le_of_ble_eq_true rfl) (by decide) rfl ?_
    refine zz_if_ne (tgt := 28) dX5_is_19 (by decide) (fun q => absurd (by rw [show (decide (0 ≤ z) && decide (z ≤ 5)) = false from h]; rfl) q) (fun _ => ?_)
    refine zz_aload_n dX5_is_22 rfl ?_
    refine zz_iconst (v := 2) dX5_is_23 (by decide) ?_
    refine zz_callV1 (ci := 5) (m_denies 2) dX5_is_24 zw_m_X5_87 wYX5_denies wDX5_denies rfl (by omega) pm_o rfl (Nat.le_of_ble_eq_true rfl) (by decide) rfl ?_
    refine zz_zret dX5_is_27 rfl (by first | rfl | exact zB_nar _) ?_
    exact ⟨rfl, rfl⟩
end ZZM8
