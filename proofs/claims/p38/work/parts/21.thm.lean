section ZZ7
variable {El : Nat → Int32} {Lo Hi : Nat → Nat → Int64} {BL BH : Nat → Int64} {Od : Nat → Nat → Int32} {Ls : Nat → Int32} {nn : Int32} {T : zz_St}
/-- the theorem's own sets may differ -/
def frT (B B' : Nat → Int64) : Prop := ∀ p, p ≤ 28 ∨ (32 ≤ p ∧ p < 39) → B' p = B p
theorem frT_r (B : Nat → Int64) : frT B B := fun _ _ => rfl
theorem frT_u {B B' : Nat → Int64} (h : frT B B') {q : Nat} (hq : ¬ (q ≤ 28 ∨ (32 ≤ q ∧ q < 39))) (v : Int64) : frT B (va_up B' q v) := fun p hp => by rw [up_ne _ _ (fun e => hq (by rw [← e]; exact hp))]; exact h p hp
theorem frT_W {B B' C : Nat → Int64} (h : frT B B') (h2 : frW 1 B' C) : frT B C := fun p hp => by rw [h2 p (by omega)]; exact h p hp
theorem frT_m {B B' C : Nat → Int64} (h : frT B B') {s : Nat} (hs : ¬ (s ≤ 28 ∨ (32 ≤ s ∧ s < 39))) (h2 : frm s B' C) : frT B C := fun p hp => by rw [h2 p (fun e => hs (by rw [← e]; exact hp))]; exact h p hp
theorem nxO_in {L H : Nat → Int64} {n i : Nat} (hn : n ≤ 80) (h : ¬ nxO L H (lfO L H (alW n) i) = -1) : ∃ j, j < n ∧ nxO L H (lfO L H (alW n) i) = nI j ∧ tb (lfO L H (alW n) i).1 (lfO L H (alW n) i).2 j = true := by
  have hc := lfO_cl (L := L) (H := H) (s := alW n) (alW_cl hn) i
  unfold nxO at h ⊢
  rcases lsf_spec ((lfO L H (alW n) i).1 &&& (ig L (lfO L H (alW n) i).1 (lfO L H (alW n) i).2 ^^^ -1)) ((lfO L H (alW n) i).2 &&& (ig H (lfO L H (alW n) i).1 (lfO L H (alW n) i).2 ^^^ -1)) (e := 0) (by omega) with ⟨h1, -⟩ | ⟨j, h1, -, h3, -, h5⟩
  · exact absurd h1 h
  · rw [tb_and, Bool.and_eq_true] at h3
    refine ⟨j, ?_, h5, h3.1⟩
    rcases Nat.lt_or_ge j n with hj | hj
    · exact hj
    · rw [hc j hj] at h3; cases h3.1
set_option maxHeartbeats 1000000 in
set_option maxRecDepth 20000 in
theorem c_wrongUnless {σ : zz_St} (b : Bool) : zz_Dt mX2_wrongUnless 0 0 0 [.int (zB b)] (σ) (.inl (some (.int (zB (!b))))) (σ) := by
  refine zz_start wPX2_wrongUnless rfl rfl (Nat.le_of_ble_eq_true rfl) ?_
  refine zz_iload_n dX2_wrongUnless_0 rfl ?_
  refine zz_if_eq (tgt := 8) dX2_wrongUnless_1 (by decide) (fun h1 => ?_) (fun h1 => ?_)
  · refine zz_iconst (v := 1) dX2_wrongUnless_8 (by decide) ?_
    refine zz_iret dX2_wrongUnless_9 rfl ?_
    refine ⟨?_, rfl⟩
    first | (rw [zB_0.mp h1]; rfl) | (rw [zB_n.mp h1]; rfl)
  · refine zz_iconst (v := 0) dX2_wrongUnless_4 (by decide) ?_
    refine zz_goto (tgt := 9) dX2_wrongUnless_5 (by decide) ?_
    refine zz_iret dX2_wrongUnless_9 rfl ?_
    refine ⟨?_, rfl⟩
    first | (rw [zB_0.mp h1]; rfl) | (rw [zB_n.mp h1]; rfl)
set_option maxHeartbeats 1000000 in
set_option maxRecDepth 20000 in
theorem l_ctw {r : Nat} (hr : r < 4) {n : Nat} (hE : El r = nI n) (hn : n ≤ 80) (hcl : cln (Lo r) (Hi r) n) : ∀ (m i : Nat), i + m = n → ∀ (B C : Nat → Int64), frT BL B → frT BH C → alb (fun i => decide (Lo 5 i = (gIt (Lo r) (Hi r) (Lo r i, Hi r i, Lo r i, Hi r i) n).2.2.1) && decide (Hi 5 i = (gIt (Lo r) (Hi r) (Lo r i, Hi r i, Lo r i, Hi r i) n).2.2.2)) i = true → zz_E mX2_closureTellsWalks none 6 0 0 (fun o τ => o = .inl (some (.int (zB (alb (fun i => decide (Lo 5 i = (gIt (Lo r) (Hi r) (Lo r i, Hi r i, Lo r i, Hi r i) n).2.2.1) && decide (Hi 5 i = (gIt (Lo r) (Hi r) (Lo r i, Hi r i, Lo r i, Hi r i) n).2.2.2)) n)))) ∧ ∃ B C, frT BL B ∧ frT BH C ∧ τ = px El Lo Hi B C Od Ls nn T) 7 [(3, .int (nI i)), (2, .int (nI n)), (0, .ref 51), (1, .ref r)] [] (px El Lo Hi B C Od Ls nn T) := by
  intro m
  induction m with
  | zero =>
    intro i hi B C hB hC ht
    have hi : i = n := by omega
    subst hi
    refine zz_iload_n dX2_closureTellsWalks_7 rfl ?_
    refine zz_iload_n dX2_closureTellsWalks_8 rfl ?_
    refine zz_icmp_ge (tgt := 59) dX2_closureTellsWalks_9 (by decide) (fun _ => ?_) (fun h => absurd (nI_le (by omega) (by omega)) h)
    refine zz_iconst (v := 1) dX2_closureTellsWalks_59 (by decide) ?_
    refine zz_zret dX2_closureTellsWalks_60 rfl (by first | rfl | exact zB_nar _) ?_
    exact ⟨by rw [ht]; rfl, B, C, hB, hC, rfl⟩
  | succ m ih =>
    intro i hi B C hB hC ht
    refine zz_iload_n dX2_closureTellsWalks_7 rfl ?_
    refine zz_iload_n dX2_closureTellsWalks_8 rfl ?_
    refine zz_icmp_ge (tgt := 59) dX2_closureTellsWalks_9 (by decide) (fun h => absurd h (nI_ge (by omega) (by omega))) (fun _ => ?_)
    refine zz_aload_n dX2_closureTellsWalks_12 rfl ?_
    refine zz_get (ci := 2) (j := 1) zz_inX2 rfl zw_f_X2_21 rfl (by decide) dX2_closureTellsWalks_13 (by omega) px_th rfl ?_
    refine zz_iload_n dX2_closureTellsWalks_16 rfl ?_
    refine zz_aload_n dX2_closureTellsWalks_17 rfl ?_
    refine zz_get (ci := 2) (j := 4) zz_inX2 rfl zw_f_X2_34 rfl (by decide) dX2_closureTellsWalks_18 (by omega) px_th rfl ?_
    refine zz_callV0 (ci := 1) (c_rowInto (r := 5) (by omega) (show i < 80 by omega) (p := 44) (by omega)) dX2_closureTellsWalks_21 zw_m_X2_84 wYX1_rowInto wDX1_rowInto rfl (by omega) (px_rel (by omega)) rfl (Nat.le_of_ble_eq_true rfl) (by decide) rfl ?_
    refine zz_aload_n dX2_closureTellsWalks_24 rfl ?_
    refine zz_get (ci := 2) (j := 0) zz_inX2 rfl zw_f_X2_12 rfl (by decide) dX2_closureTellsWalks_25 (by omega) px_th rfl ?_
    refine zz_aload_n dX2_closureTellsWalks_28 rfl ?_
    refine zz_iload_n dX2_closureTellsWalks_29 rfl ?_
    refine zz_aload_n dX2_closureTellsWalks_30 rfl ?_
    refine zz_get (ci := 2) (j := 5) zz_inX2 rfl zw_f_X2_38 rfl (by decide) dX2_closureTellsWalks_31 (by omega) px_th rfl ?_
    refine zz_callV (ci := 3) (c_reachFrom (w := 1) (by omega) (show r < 8 by omega) hE hn hcl (show i < n by omega) (p := 45) (by omega) (by omega)) dX2_closureTellsWalks_34 zw_m_X2_88 wYX3_reachFrom wDX3_reachFrom rfl (by omega) (px_wk (by omega)) rfl (Nat.le_of_ble_eq_true rfl) (by decide) (by omega) (by omega) rfl ?_ (fun E τ hE => by cases hE.1)
    rintro _ _ ⟨hv1, B1, C1, hB1, hC1, rfl⟩
    cases hv1
    refine zz_aload_n dX2_closureTellsWalks_37 rfl ?_
    refine zz_get (ci := 2) (j := 4) zz_inX2 rfl zw_f_X2_34 rfl (by decide) dX2_closureTellsWalks_38 (by omega) px_th rfl ?_
    refine zz_aload_n dX2_closureTellsWalks_41 rfl ?_
    refine zz_get (ci := 2) (j := 5) zz_inX2 rfl zw_f_X2_38 rfl (by decide) dX2_closureTellsWalks_42 (by omega) px_th rfl ?_
    refine zz_callV1 (ci := 0) (c_isLike (p := 44) (by omega) (q := 45) (by omega)) dX2_closureTellsWalks_45 zw_m_X2_92 wYX0_isLike wDX0_isLike rfl (by omega) (px_bit (by omega)) rfl (Nat.le_of_ble_eq_true rfl) (by decide) rfl ?_
    refine zz_if_ne (tgt := 53) dX2_closureTellsWalks_48 (by decide) (fun h48 => ?_) (fun h48 => ?_)
    · refine zz_iinc (v := nI (i + 1)) dX2_closureTellsWalks_53 rfl (nI_1 i) (by decide) ?_
      refine zz_goto (tgt := 7) dX2_closureTellsWalks_56 (by decide) ?_
      have b1 : B1 44 = Lo 5 i := by rw [hB1 44 (by omega), up_at]
      have b2 : C1 44 = Hi 5 i := by rw [hC1 44 (by omega), up_at]
      simp only [up_at, up_ne _ _ (show (44 : Nat) ≠ 45 by decide), b1, b2] at h48
      refine ih (i + 1) (by omega) _ _ (frT_u (frT_W (frT_u hB (by omega) _) hB1) (by omega) _) (frT_u (frT_W (frT_u hC (by omega) _) hC1) (by omega) _) ?_
      show (alb _ i && _) = true
      rw [ht, Bool.true_and]
      exact zB_n.mp h48
    · refine zz_iconst (v := 0) dX2_closureTellsWalks_51 (by decide) ?_
      refine zz_zret dX2_closureTellsWalks_52 rfl (by first | rfl | exact zB_nar _) ?_
      have b1 : B1 44 = Lo 5 i := by rw [hB1 44 (by omega), up_at]
      have b2 : C1 44 = Hi 5 i := by rw [hC1 44 (by omega), up_at]
      simp only [up_at, up_ne _ _ (show (44 : Nat) ≠ 45 by decide), b1, b2] at h48
      refine ⟨by rw [alb_f (f := fun i => decide (Lo 5 i = (gIt (Lo r) (Hi r) (Lo r i, Hi r i, Lo r i, Hi r i) n).2.2.1) && decide (Hi 5 i = (gIt (Lo r) (Hi r) (Lo r i, Hi r i, Lo r i, Hi r i) n).2.2.2)) (i := i) (by omega) (zB_0.mp h48)]; rfl, _, _, frT_u (frT_W (frT_u hB (by omega) _) hB1) (by omega) _, frT_u (frT_W (frT_u hC (by omega) _) hC1) (by omega) _, rfl⟩
set_option maxHeartbeats 1000000 in
set_option maxRecDepth 20000 in
theorem c_ctw {r : Nat} (hr : r < 4) {n : Nat} (hE : El r = nI n) (hn : n ≤ 80) (hcl : cln (Lo r) (Hi r) n) : zz_C mX2_closureTellsWalks 6 0 0 [.ref 51, .ref r] (px El Lo Hi BL BH Od Ls nn T) (fun o τ => o = .inl (some (.int (zB (alb (fun i => decide (Lo 5 i = (gIt (Lo r) (Hi r) (Lo r i, Hi r i, Lo r i, Hi r i) n).2.2.1) && decide (Hi 5 i = (gIt (Lo r) (Hi r) (Lo r i, Hi r i, Lo r i, Hi r i) n).2.2.2)) n)))) ∧ ∃ B C, frT BL B ∧ frT BH C ∧ τ = px El Lo Hi B C Od Ls nn T) := by
  refine zz_start wPX2_closureTellsWalks rfl rfl (Nat.le_of_ble_eq_true rfl) ?_
  refine zz_aload_n dX2_closureTellsWalks_0 rfl ?_
  refine zz_callV1 (ci := 1) (c_elementsInside (show r < 8 by omega)) dX2_closureTellsWalks_1 zw_m_X2_80 wYX1_elementsInside wDX1_elementsInside rfl (by omega) (px_rel (by omega)) rfl (Nat.le_of_ble_eq_true rfl) (by decide) rfl ?_
  refine zz_istore_n dX2_closureTellsWalks_4 (by decide) ?_
  refine zz_iconst (v := 0) dX2_closureTellsWalks_5 (by decide) ?_
  refine zz_istore_n dX2_closureTellsWalks_6 (by decide) ?_
  rw [hE]
  exact l_ctw hr hE hn hcl n 0 (by omega) BL BH (frT_r _) (frT_r _) rfl
set_option maxHeartbeats 1000000 in
set_option maxRecDepth 20000 in
theorem l_cpeI {n : Nat} (hE : El 5 = nI n) (hn : n ≤ 80) {e : Nat} (he : e < n) (S : Nat → Int32) (hS : ∀ k, k < e + 1 → S k = nI (ff (fun a => ioc (Lo 5) (Hi 5) a k) k 0)) (K : alb (fun b => decide ((ff (fun a => ioc (Lo 5) (Hi 5) a b) b 0) = (ff (fun a => ioc (Lo 5) (Hi 5) a e) e 0)) == ioc (Lo 5) (Hi 5) b e) e = true → zz_E mX2_classesPartElements none 5 0 0 (fun o τ => o = .inl (some (.int (zB (alb (fun e => alb (fun b => decide ((ff (fun a => ioc (Lo 5) (Hi 5) a b) b 0) = (ff (fun a => ioc (Lo 5) (Hi 5) a e) e 0)) == ioc (Lo 5) (Hi 5) b e) e) n)))) ∧ ∃ S, τ = px El Lo Hi BL BH Od S nn T) 112 [(3, .int (nI e)), (2, .int (nI (cnt (fun k => decide ((ff (fun a => ioc (Lo 5) (Hi 5) a k) k 0) = k)) (e + 1)))), (1, .int (nI n)), (0, .ref 51)] [] (px El Lo Hi BL BH Od S nn T)) : ∀ (m i : Nat), i + m = e → alb (fun b => decide ((ff (fun a => ioc (Lo 5) (Hi 5) a b) b 0) = (ff (fun a => ioc (Lo 5) (Hi 5) a e) e 0)) == ioc (Lo 5) (Hi 5) b e) i = true → zz_E mX2_classesPartElements none 5 0 0 (fun o τ => o = .inl (some (.int (zB (alb (fun e => alb (fun b => decide ((ff (fun a => ioc (Lo 5) (Hi 5) a b) b 0) = (ff (fun a => ioc (Lo 5) (Hi 5) a e) e 0)) == ioc (Lo 5) (Hi 5) b e) e) n)))) ∧ ∃ S, τ = px El Lo Hi BL BH Od S nn T) 60 [(4, .int (nI i)), (2, .int (nI (cnt (fun k => decide ((ff (fun a => ioc (Lo 5) (Hi 5) a k) k 0) = k)) (e + 1)))), (3, .int (nI e)), (1, .int (nI n)), (0, .ref 51)] [] (px El Lo Hi BL BH Od S nn T) := by
  intro m
  induction m with
  | zero =>
    intro i hi ht
    have hi : i = e := by omega
    subst hi
    refine zz_iload dX2_classesPartElements_60 rfl ?_
    refine zz_iload_n dX2_classesPartElements_62 rfl ?_
    refine zz_icmp_ge (tgt := 112) dX2_classesPartElements_63 (by decide) (fun _ => ?_) (fun h => absurd (nI_le (by omega) (by omega)) h)
    refine zz_lvs (lv2 := [(3, .int (nI i)), (2, .int (nI (cnt (fun k => decide ((ff (fun a => ioc (Lo 5) (Hi 5) a k) k 0) = k)) (i + 1)))), (1, .int (nI n)), (0, .ref 51)]) (fun q hq => by simp only [List.mem_cons, List.not_mem_nil, or_false] at hq; rcases hq with rfl | rfl | rfl | rfl <;> simp [zz_up1, zz_up2, Value.category]) ?_
    exact K ht
  | succ m ih =>
    intro i hi ht
    refine zz_iload dX2_classesPartElements_60 rfl ?_
    refine zz_iload_n dX2_classesPartElements_62 rfl ?_
    refine zz_icmp_ge (tgt := 112) dX2_classesPartElements_63 (by decide) (fun h => absurd h (nI_ge (by omega) (by omega))) (fun _ => ?_)
    refine zz_aload_n dX2_classesPartElements_66 rfl ?_
    refine zz_get (ci := 2) (j := 6) zz_inX2 rfl zw_f_X2_41 rfl (by decide) dX2_classesPartElements_67 (by omega) px_th rfl ?_
    refine zz_iload dX2_classesPartElements_70 rfl ?_
    first | refine zl_od dX2_classesPartElements_72 (by omega) (by omega) ?_ | refine zl_ls dX2_classesPartElements_72 (by omega) ?_
    refine zz_aload_n dX2_classesPartElements_73 rfl ?_
    refine zz_get (ci := 2) (j := 6) zz_inX2 rfl zw_f_X2_41 rfl (by decide) dX2_classesPartElements_74 (by omega) px_th rfl ?_
    refine zz_iload_n dX2_classesPartElements_77 rfl ?_
    first | refine zl_od dX2_classesPartElements_78 (by omega) (by omega) ?_ | refine zl_ls dX2_classesPartElements_78 (by omega) ?_
    rw [hS i (by omega), hS e (by omega)]
    refine zz_icmp_ne (tgt := 86) dX2_classesPartElements_79 (by decide) (fun h79 => ?_) (fun h79 => ?_)
    · refine zz_iconst (v := 0) dX2_classesPartElements_86 (by decide) ?_
      refine zz_istore dX2_classesPartElements_87 (by decide) ?_
      refine zz_iload dX2_classesPartElements_89 rfl ?_
      refine zz_aload_n dX2_classesPartElements_91 rfl ?_
      refine zz_get (ci := 2) (j := 1) zz_inX2 rfl zw_f_X2_21 rfl (by decide) dX2_classesPartElements_92 (by omega) px_th rfl ?_
      refine zz_iload dX2_classesPartElements_95 rfl ?_
      refine zz_iload_n dX2_classesPartElements_97 rfl ?_
      refine zz_callV1 (ci := 1) (c_inOneClass (r := 5) (by omega) (show i < 80 by omega) (show e < 80 by omega)) dX2_classesPartElements_98 zw_m_X2_106 wYX1_inOneClass wDX1_inOneClass rfl (by omega) (px_rel (by omega)) rfl (Nat.le_of_ble_eq_true rfl) (by decide) rfl ?_
      refine zz_icmp_eq (tgt := 106) dX2_classesPartElements_101 (by decide) (fun h101 => ?_) (fun h101 => ?_)
      · refine zz_iinc (v := nI (i + 1)) dX2_classesPartElements_106 rfl (nI_1 i) (by decide) ?_
        refine zz_goto (tgt := 60) dX2_classesPartElements_109 (by decide) ?_
        have l1 := ff_le (fun a => ioc (Lo 5) (Hi 5) a i) i 0
        have l2 := ff_le (fun a => ioc (Lo 5) (Hi 5) a e) e 0
        rw [nI_eq (by omega) (by omega)] at h79
        refine zz_lvs (lv2 := [(4, .int (nI (i + 1))), (2, .int (nI (cnt (fun k => decide ((ff (fun a => ioc (Lo 5) (Hi 5) a k) k 0) = k)) (e + 1)))), (3, .int (nI e)), (1, .int (nI n)), (0, .ref 51)]) (fun q hq => by simp only [List.mem_cons, List.not_mem_nil, or_false] at hq; rcases hq with rfl | rfl | rfl | rfl | rfl <;> simp [zz_up1, zz_up2, Value.category]) ?_
        refine ih (i + 1) (by omega) ?_
        show (alb _ i && _) = true
        rw [ht, Bool.true_and]
        show (decide _ == _) = true
        first | (rw [decide_eq_true h79]; exact beq_iff_eq.mpr (by first | exact zB_inj.mp (show zB true = _ from h101) | exact (zB_inj.mp (show _ = zB true from h101.symm)).symm)) | (rw [decide_eq_false h79]; exact beq_iff_eq.mpr (zB_inj.mp (show zB false = _ from h101)))
      · refine zz_iconst (v := 0) dX2_classesPartElements_104 (by decide) ?_
        refine zz_zret dX2_classesPartElements_105 rfl (by first | rfl | exact zB_nar _) ?_
        have l1 := ff_le (fun a => ioc (Lo 5) (Hi 5) a i) i 0
        have l2 := ff_le (fun a => ioc (Lo 5) (Hi 5) a e) e 0
        rw [nI_eq (by omega) (by omega)] at h79
        have hz : (fun b => decide ((ff (fun a => ioc (Lo 5) (Hi 5) a b) b 0) = (ff (fun a => ioc (Lo 5) (Hi 5) a e) e 0)) == ioc (Lo 5) (Hi 5) b e) i = false := by
          first | (show (decide _ == _) = false; rw [decide_eq_true h79]; exact beq_false_of_ne (fun hh => h101 (congrArg zB hh))) | (show (decide _ == _) = false; rw [decide_eq_false h79]; exact beq_false_of_ne (fun hh => h101 (congrArg zB hh)))
        exact ⟨by rw [alb_f (f := fun e => alb (fun b => decide ((ff (fun a => ioc (Lo 5) (Hi 5) a b) b 0) = (ff (fun a => ioc (Lo 5) (Hi 5) a e) e 0)) == ioc (Lo 5) (Hi 5) b e) e) (i := e) he (alb_f (f := fun b => decide ((ff (fun a => ioc (Lo 5) (Hi 5) a b) b 0) = (ff (fun a => ioc (Lo 5) (Hi 5) a e) e 0)) == ioc (Lo 5) (Hi 5) b e) (i := i) (by omega) hz)]; rfl, S, rfl⟩
    · refine zz_iconst (v := 1) dX2_classesPartElements_82 (by decide) ?_
      refine zz_goto (tgt := 87) dX2_classesPartElements_83 (by decide) ?_
      refine zz_istore dX2_classesPartElements_87 (by decide) ?_
      refine zz_iload dX2_classesPartElements_89 rfl ?_
      refine zz_aload_n dX2_classesPartElements_91 rfl ?_
      refine zz_get (ci := 2) (j := 1) zz_inX2 rfl zw_f_X2_21 rfl (by decide) dX2_classesPartElements_92 (by omega) px_th rfl ?_
      refine zz_iload dX2_classesPartElements_95 rfl ?_
      refine zz_iload_n dX2_classesPartElements_97 rfl ?_
      refine zz_callV1 (ci := 1) (c_inOneClass (r := 5) (by omega) (show i < 80 by omega) (show e < 80 by omega)) dX2_classesPartElements_98 zw_m_X2_106 wYX1_inOneClass wDX1_inOneClass rfl (by omega) (px_rel (by omega)) rfl (Nat.le_of_ble_eq_true rfl) (by decide) rfl ?_
      refine zz_icmp_eq (tgt := 106) dX2_classesPartElements_101 (by decide) (fun h101 => ?_) (fun h101 => ?_)
      · refine zz_iinc (v := nI (i + 1)) dX2_classesPartElements_106 rfl (nI_1 i) (by decide) ?_
        refine zz_goto (tgt := 60) dX2_classesPartElements_109 (by decide) ?_
        have l1 := ff_le (fun a => ioc (Lo 5) (Hi 5) a i) i 0
        have l2 := ff_le (fun a => ioc (Lo 5) (Hi 5) a e) e 0
        rw [nI_eq (by omega) (by omega)] at h79
        refine zz_lvs (lv2 := [(4, .int (nI (i + 1))), (2, .int (nI (cnt (fun k => decide ((ff (fun a => ioc (Lo 5) (Hi 5) a k) k 0) = k)) (e + 1)))), (3, .int (nI e)), (1, .int (nI n)), (0, .ref 51)]) (fun q hq => by simp only [List.mem_cons, List.not_mem_nil, or_false] at hq; rcases hq with rfl | rfl | rfl | rfl | rfl <;> simp [zz_up1, zz_up2, Value.category]) ?_
        refine ih (i + 1) (by omega) ?_
        show (alb _ i && _) = true
        rw [ht, Bool.true_and]
        show (decide _ == _) = true
        first | (rw [decide_eq_true h79]; exact beq_iff_eq.mpr (by first | exact zB_inj.mp (show zB true = _ from h101) | exact (zB_inj.mp (show _ = zB true from h101.symm)).symm)) | (rw [decide_eq_false h79]; exact beq_iff_eq.mpr (zB_inj.mp (show zB false = _ from h101)))
      · refine zz_iconst (v := 0) dX2_classesPartElements_104 (by decide) ?_
        refine zz_zret dX2_classesPartElements_105 rfl (by first | rfl | exact zB_nar _) ?_
        have l1 := ff_le (fun a => ioc (Lo 5) (Hi 5) a i) i 0
        have l2 := ff_le (fun a => ioc (Lo 5) (Hi 5) a e) e 0
        rw [nI_eq (by omega) (by omega)] at h79
        have hz : (fun b => decide ((ff (fun a => ioc (Lo 5) (Hi 5) a b) b 0) = (ff (fun a => ioc (Lo 5) (Hi 5) a e) e 0)) == ioc (Lo 5) (Hi 5) b e) i = false := by
          first | (show (decide _ == _) = false; rw [decide_eq_true h79]; exact beq_false_of_ne (fun hh => h101 (congrArg zB hh))) | (show (decide _ == _) = false; rw [decide_eq_false h79]; exact beq_false_of_ne (fun hh => h101 (congrArg zB hh)))
        exact ⟨by rw [alb_f (f := fun e => alb (fun b => decide ((ff (fun a => ioc (Lo 5) (Hi 5) a b) b 0) = (ff (fun a => ioc (Lo 5) (Hi 5) a e) e 0)) == ioc (Lo 5) (Hi 5) b e) e) (i := e) he (alb_f (f := fun b => decide ((ff (fun a => ioc (Lo 5) (Hi 5) a b) b 0) = (ff (fun a => ioc (Lo 5) (Hi 5) a e) e 0)) == ioc (Lo 5) (Hi 5) b e) (i := i) (by omega) hz)]; rfl, S, rfl⟩
set_option maxHeartbeats 1000000 in
set_option maxRecDepth 20000 in
theorem l_cpeO {n : Nat} (hE : El 5 = nI n) (hn : n ≤ 80) : ∀ (m i : Nat), i + m = n → ∀ (S : Nat → Int32), (∀ k, k < i → S k = nI (ff (fun a => ioc (Lo 5) (Hi 5) a k) k 0)) → alb (fun e => alb (fun b => decide ((ff (fun a => ioc (Lo 5) (Hi 5) a b) b 0) = (ff (fun a => ioc (Lo 5) (Hi 5) a e) e 0)) == ioc (Lo 5) (Hi 5) b e) e) i = true → zz_E mX2_classesPartElements none 5 0 0 (fun o τ => o = .inl (some (.int (zB (alb (fun e => alb (fun b => decide ((ff (fun a => ioc (Lo 5) (Hi 5) a b) b 0) = (ff (fun a => ioc (Lo 5) (Hi 5) a e) e 0)) == ioc (Lo 5) (Hi 5) b e) e) n)))) ∧ ∃ S, τ = px El Lo Hi BL BH Od S nn T) 20 [(3, .int (nI i)), (2, .int (nI (cnt (fun k => decide ((ff (fun a => ioc (Lo 5) (Hi 5) a k) k 0) = k)) i))), (1, .int (nI n)), (0, .ref 51)] [] (px El Lo Hi BL BH Od S nn T) := by
  intro m
  induction m with
  | zero =>
    intro i hi S hS ht
    have hi : i = n := by omega
    subst hi
    refine zz_iload_n dX2_classesPartElements_20 rfl ?_
    refine zz_iload_n dX2_classesPartElements_21 rfl ?_
    refine zz_icmp_ge (tgt := 118) dX2_classesPartElements_22 (by decide) (fun _ => ?_) (fun h => absurd (nI_le (by omega) (by omega)) h)
    refine zz_iload_n dX2_classesPartElements_118 rfl ?_
    refine zz_aload_n dX2_classesPartElements_119 rfl ?_
    refine zz_get (ci := 2) (j := 1) zz_inX2 rfl zw_f_X2_21 rfl (by decide) dX2_classesPartElements_120 (by omega) px_th rfl ?_
    refine zz_callV1 (ci := 1) (c_classesInside (r := 5) (by omega) hE hn) dX2_classesPartElements_123 zw_m_X2_110 wYX1_classesInside wDX1_classesInside rfl (by omega) (px_rel (by omega)) rfl (Nat.le_of_ble_eq_true rfl) (by decide) rfl ?_
    refine zz_icmp_ne (tgt := 133) dX2_classesPartElements_126 (by decide) (fun h => absurd rfl h) (fun _ => ?_)
    refine zz_iconst (v := 1) dX2_classesPartElements_129 (by decide) ?_
    refine zz_goto (tgt := 134) dX2_classesPartElements_130 (by decide) ?_
    refine zz_zret dX2_classesPartElements_134 rfl (by first | rfl | exact zB_nar _) ?_
    exact ⟨by rw [ht]; rfl, S, rfl⟩
  | succ m ih =>
    intro i hi S hS ht
    refine zz_iload_n dX2_classesPartElements_20 rfl ?_
    refine zz_iload_n dX2_classesPartElements_21 rfl ?_
    refine zz_icmp_ge (tgt := 118) dX2_classesPartElements_22 (by decide) (fun h => absurd h (nI_ge (by omega) (by omega))) (fun _ => ?_)
    refine zz_aload_n dX2_classesPartElements_25 rfl ?_
    refine zz_get (ci := 2) (j := 6) zz_inX2 rfl zw_f_X2_41 rfl (by decide) dX2_classesPartElements_26 (by omega) px_th rfl ?_
    refine zz_iload_n dX2_classesPartElements_29 rfl ?_
    refine zz_aload_n dX2_classesPartElements_30 rfl ?_
    refine zz_get (ci := 2) (j := 1) zz_inX2 rfl zw_f_X2_21 rfl (by decide) dX2_classesPartElements_31 (by omega) px_th rfl ?_
    refine zz_iload_n dX2_classesPartElements_34 rfl ?_
    refine zz_callV1 (ci := 1) (c_leastOfClass (r := 5) (by omega) (show i < 80 by omega)) dX2_classesPartElements_35 zw_m_X2_102 wYX1_leastOfClass wDX1_leastOfClass rfl (by omega) (px_rel (by omega)) rfl (Nat.le_of_ble_eq_true rfl) (by decide) rfl ?_
    first | refine zs_od dX2_classesPartElements_38 (by omega) (by omega) ?_ | refine zs_ls dX2_classesPartElements_38 (by omega) ?_
    refine zz_iload_n dX2_classesPartElements_39 rfl ?_
    refine zz_aload_n dX2_classesPartElements_40 rfl ?_
    refine zz_get (ci := 2) (j := 6) zz_inX2 rfl zw_f_X2_41 rfl (by decide) dX2_classesPartElements_41 (by omega) px_th rfl ?_
    refine zz_iload_n dX2_classesPartElements_44 rfl ?_
    first | refine zl_od dX2_classesPartElements_45 (by omega) (by omega) ?_ | refine zl_ls dX2_classesPartElements_45 (by omega) ?_
    refine zz_iload_n dX2_classesPartElements_46 rfl ?_
    rw [up_at]
    refine zz_icmp_ne (tgt := 54) dX2_classesPartElements_47 (by decide) (fun h47 => ?_) (fun h47 => ?_)
    · refine zz_iconst (v := 0) dX2_classesPartElements_54 (by decide) ?_
      refine zz_iadd dX2_classesPartElements_55 ?_
      have l1 := ff_le (fun a => ioc (Lo 5) (Hi 5) a i) i 0
      rw [nI_eq (by omega) (by omega)] at h47
      have e1 : cnt (fun k => decide ((ff (fun a => ioc (Lo 5) (Hi 5) a k) k 0) = k)) (i + 1) = if (ff (fun a => ioc (Lo 5) (Hi 5) a i) i 0) = i then cnt (fun k => decide ((ff (fun a => ioc (Lo 5) (Hi 5) a k) k 0) = k)) i + 1 else cnt (fun k => decide ((ff (fun a => ioc (Lo 5) (Hi 5) a k) k 0) = k)) i := by show (if decide _ = true then _ else _) = _; simp only [decide_eq_true_eq]
      have K2 : zz_E mX2_classesPartElements none 5 0 0 (fun o τ => o = .inl (some (.int (zB (alb (fun e => alb (fun b => decide ((ff (fun a => ioc (Lo 5) (Hi 5) a b) b 0) = (ff (fun a => ioc (Lo 5) (Hi 5) a e) e 0)) == ioc (Lo 5) (Hi 5) b e) e) n)))) ∧ ∃ S, τ = px El Lo Hi BL BH Od S nn T) 56 [(3, .int (nI i)), (2, .int (nI (cnt (fun k => decide ((ff (fun a => ioc (Lo 5) (Hi 5) a k) k 0) = k)) i))), (1, .int (nI n)), (0, .ref 51)] [.int (nI (cnt (fun k => decide ((ff (fun a => ioc (Lo 5) (Hi 5) a k) k 0) = k)) (i + 1)))] (px El Lo Hi BL BH Od (va_up S i (nI (ff (fun a => ioc (Lo 5) (Hi 5) a i) i 0))) nn T) := by
        refine zz_istore_n dX2_classesPartElements_56 (by decide) ?_
        refine zz_iconst (v := 0) dX2_classesPartElements_57 (by decide) ?_
        refine zz_istore dX2_classesPartElements_58 (by decide) ?_
        refine l_cpeI hE hn (e := i) (by omega) (va_up S i (nI (ff (fun a => ioc (Lo 5) (Hi 5) a i) i 0))) (fun k hk => ?_) (fun hb => ?_) i 0 (by omega) rfl
        · by_cases hki : k = i
          · subst hki; rw [up_at]
          · rw [up_ne _ _ hki]; exact hS k (by omega)
        · refine zz_iinc (v := nI (i + 1)) dX2_classesPartElements_112 rfl (nI_1 i) (by decide) ?_
          refine zz_goto (tgt := 20) dX2_classesPartElements_115 (by decide) ?_
          refine zz_lvs (lv2 := [(3, .int (nI (i + 1))), (2, .int (nI (cnt (fun k => decide ((ff (fun a => ioc (Lo 5) (Hi 5) a k) k 0) = k)) (i + 1)))), (1, .int (nI n)), (0, .ref 51)]) (fun q hq => by simp only [List.mem_cons, List.not_mem_nil, or_false] at hq; rcases hq with rfl | rfl | rfl | rfl <;> simp [zz_up1, zz_up2, Value.category]) ?_
          refine ih (i + 1) (by omega) (va_up S i (nI (ff (fun a => ioc (Lo 5) (Hi 5) a i) i 0))) (fun k hk => ?_) ?_
          · by_cases hki : k = i
            · subst hki; rw [up_at]
            · rw [up_ne _ _ hki]; exact hS k (by omega)
          · show (alb _ i && _) = true
            rw [ht, Bool.true_and]
            exact hb
      first | (rw [e1, if_pos h47, ← nI_1] at K2; exact K2) | (rw [e1, if_neg h47] at K2; rw [Int32.add_zero]; exact K2)
    · refine zz_iconst (v := 1) dX2_classesPartElements_50 (by decide) ?_
      refine zz_goto (tgt := 55) dX2_classesPartElements_51 (by decide) ?_
      refine zz_iadd dX2_classesPartElements_55 ?_
      have l1 := ff_le (fun a => ioc (Lo 5) (Hi 5) a i) i 0
      rw [nI_eq (by omega) (by omega)] at h47
      have e1 : cnt (fun k => decide ((ff (fun a => ioc (Lo 5) (Hi 5) a k) k 0) = k)) (i + 1) = if (ff (fun a => ioc (Lo 5) (Hi 5) a i) i 0) = i then cnt (fun k => decide ((ff (fun a => ioc (Lo 5) (Hi 5) a k) k 0) = k)) i + 1 else cnt (fun k => decide ((ff (fun a => ioc (Lo 5) (Hi 5) a k) k 0) = k)) i := by show (if decide _ = true then _ else _) = _; simp only [decide_eq_true_eq]
      have K2 : zz_E mX2_classesPartElements none 5 0 0 (fun o τ => o = .inl (some (.int (zB (alb (fun e => alb (fun b => decide ((ff (fun a => ioc (Lo 5) (Hi 5) a b) b 0) = (ff (fun a => ioc (Lo 5) (Hi 5) a e) e 0)) == ioc (Lo 5) (Hi 5) b e) e) n)))) ∧ ∃ S, τ = px El Lo Hi BL BH Od S nn T) 56 [(3, .int (nI i)), (2, .int (nI (cnt (fun k => decide ((ff (fun a => ioc (Lo 5) (Hi 5) a k) k 0) = k)) i))), (1, .int (nI n)), (0, .ref 51)] [.int (nI (cnt (fun k => decide ((ff (fun a => ioc (Lo 5) (Hi 5) a k) k 0) = k)) (i + 1)))] (px El Lo Hi BL BH Od (va_up S i (nI (ff (fun a => ioc (Lo 5) (Hi 5) a i) i 0))) nn T) := by
        refine zz_istore_n dX2_classesPartElements_56 (by decide) ?_
        refine zz_iconst (v := 0) dX2_classesPartElements_57 (by decide) ?_
        refine zz_istore dX2_classesPartElements_58 (by decide) ?_
        refine l_cpeI hE hn (e := i) (by omega) (va_up S i (nI (ff (fun a => ioc (Lo 5) (Hi 5) a i) i 0))) (fun k hk => ?_) (fun hb => ?_) i 0 (by omega) rfl
        · by_cases hki : k = i
          · subst hki; rw [up_at]
          · rw [up_ne _ _ hki]; exact hS k (by omega)
        · refine zz_iinc (v := nI (i + 1)) dX2_classesPartElements_112 rfl (nI_1 i) (by decide) ?_
          refine zz_goto (tgt := 20) dX2_classesPartElements_115 (by decide) ?_
          refine zz_lvs (lv2 := [(3, .int (nI (i + 1))), (2, .int (nI (cnt (fun k => decide ((ff (fun a => ioc (Lo 5) (Hi 5) a k) k 0) = k)) (i + 1)))), (1, .int (nI n)), (0, .ref 51)]) (fun q hq => by simp only [List.mem_cons, List.not_mem_nil, or_false] at hq; rcases hq with rfl | rfl | rfl | rfl <;> simp [zz_up1, zz_up2, Value.category]) ?_
          refine ih (i + 1) (by omega) (va_up S i (nI (ff (fun a => ioc (Lo 5) (Hi 5) a i) i 0))) (fun k hk => ?_) ?_
          · by_cases hki : k = i
            · subst hki; rw [up_at]
            · rw [up_ne _ _ hki]; exact hS k (by omega)
          · show (alb _ i && _) = true
            rw [ht, Bool.true_and]
            exact hb
      first | (rw [e1, if_pos h47, ← nI_1] at K2; exact K2) | (rw [e1, if_neg h47] at K2; rw [Int32.add_zero]; exact K2)
set_option maxHeartbeats 1000000 in
set_option maxRecDepth 20000 in
theorem c_cpe {n : Nat} (hE : El 5 = nI n) (hn : n ≤ 80) : zz_C mX2_classesPartElements 5 0 0 [.ref 51] (px El Lo Hi BL BH Od Ls nn T) (fun o τ => o = .inl (some (.int (zB (alb (fun e => alb (fun b => decide ((ff (fun a => ioc (Lo 5) (Hi 5) a b) b 0) = (ff (fun a => ioc (Lo 5) (Hi 5) a e) e 0)) == ioc (Lo 5) (Hi 5) b e) e) n)))) ∧ ∃ S, τ = px El Lo Hi BL BH Od S nn T) := by
  refine zz_start wPX2_classesPartElements rfl rfl (Nat.le_of_ble_eq_true rfl) ?_
  refine zz_aload_n dX2_classesPartElements_0 rfl ?_
  refine zz_get (ci := 2) (j := 1) zz_inX2 rfl zw_f_X2_21 rfl (by decide) dX2_classesPartElements_1 (by omega) px_th rfl ?_
  refine zz_callV1 (ci := 1) (c_elementsInside (r := 5) (by omega)) dX2_classesPartElements_4 zw_m_X2_80 wYX1_elementsInside wDX1_elementsInside rfl (by omega) (px_rel (by omega)) rfl (Nat.le_of_ble_eq_true rfl) (by decide) rfl ?_
  refine zz_aload_n dX2_classesPartElements_7 rfl ?_
  refine zz_get (ci := 2) (j := 6) zz_inX2 rfl zw_f_X2_41 rfl (by decide) dX2_classesPartElements_8 (by omega) px_th rfl ?_
  first | refine zz_alen1 (v := 80) dX2_classesPartElements_11 (by omega) (px_lo (by omega)) (by decide) ?_ | refine zz_alen1 (v := 80) dX2_classesPartElements_11 (by omega) (px_hi (by omega)) (by decide) ?_ | refine zz_alen0 (v := 80) dX2_classesPartElements_11 (by omega) (px_od (by omega)) (by decide) ?_ | refine zz_alen0 (v := 80) dX2_classesPartElements_11 (by omega) px_ls (by decide) ?_ | refine zz_alen3 (v := 4) dX2_classesPartElements_11 (by omega) px_rs (by decide) ?_
  refine zz_min dX2_classesPartElements_12 zw_m_X2_96 (by decide) (Nat.le_of_ble_eq_true rfl) ?_
  rw [hE, if_neg (show ¬ (80 : Int32) < nI n from nI_nlt (b := n) (a := 80) (by omega) (by omega))]
  refine zz_istore_n dX2_classesPartElements_15 (by decide) ?_
  refine zz_iconst (v := 0) dX2_classesPartElements_16 (by decide) ?_
  refine zz_istore_n dX2_classesPartElements_17 (by decide) ?_
  refine zz_iconst (v := 0) dX2_classesPartElements_18 (by decide) ?_
  refine zz_istore_n dX2_classesPartElements_19 (by decide) ?_
  exact l_cpeO hE hn n 0 (by omega) Ls (fun k hk => absurd hk (Nat.not_lt_zero k)) rfl
end ZZ7
