section ZZ9
variable {El : Nat → Int32} {Lo Hi : Nat → Nat → Int64} {BL BH : Nat → Int64} {Od : Nat → Nat → Int32} {Ls : Nat → Int32} {nn : Int32} {T : zz_St}
/-- what the order has passed -/
def psO (L H : Nat → Int64) (n : Nat) : Nat → Int64 × Int64
  | 0 => (0, 0)
  | i + 1 => ((psO L H n i).1 ||| lwR (nxO L H (lfO L H (alW n) i)) (nxO L H (lfO L H (alW n) i) + 1), (psO L H n i).2 ||| hgR (nxO L H (lfO L H (alW n) i)) (nxO L H (lfO L H (alW n) i) + 1))
def xN (L H : Nat → Int64) (n i : Nat) : Nat := (nxO L H (lfO L H (alW n) i)).toNatClampNeg
def foB (L H : Nat → Int64) (n : Nat) : Bool := alb (fun i => decide (¬ nxO L H (lfO L H (alW n) i) = -1)) n
def mtB (L H : Nat → Int64) (n i : Nat) : Bool := !(decide (L (xN L H n i) &&& (psO L H n (i + 1)).1 = 0) && decide (H (xN L H n i) &&& (psO L H n (i + 1)).2 = 0))
def okB (L5 H5 L H : Nat → Int64) (n : Nat) : Bool := if foB L H n = true then (alb (fun i => !(mtB L H n i)) n && (decide (ows L5 H5 n = 0) && decide (bcn (psO L H n n).1 + bcn (psO L H n n).2 = nI n))) else !(decide (ows L5 H5 n = 0))
set_option maxHeartbeats 1000000 in
set_option maxRecDepth 20000 in
theorem l_ok {r : Nat} (hr : r < 4) {n : Nat} (hE : El r = nI n) (hn : n ≤ 80) (hcl : cln (Lo r) (Hi r) n) (hfo : foB (Lo r) (Hi r) n = true) (O : Nat → Nat → Int32) (hO : ∀ p, p ≠ 47 → O p = Od p) (hOj : ∀ j, j < n → O 47 j = nxO (Lo r) (Hi r) (lfO (Lo r) (Hi r) (alW n) j)) : ∀ (m i : Nat), i + m = n → ∀ (B C : Nat → Int64), frT BL B → frT BH C → B 45 = (psO (Lo r) (Hi r) n i).1 → C 45 = (psO (Lo r) (Hi r) n i).2 → alb (fun i => !(mtB (Lo r) (Hi r) n i)) i = true → zz_E mX2_orderKeeps none 5 0 0 (fun o τ => o = .inl (some (.int (zB (okB (Lo 5) (Hi 5) (Lo r) (Hi r) n)))) ∧ ∃ B C O, frT BL B ∧ frT BH C ∧ (∀ p, p ≠ 47 → O p = Od p) ∧ τ = px El Lo Hi B C O Ls nn T) 55 [(5, .int (nI i)), (4, .int (nI n)), (3, .ref 45), (2, .int (zB (decide (ows (Lo 5) (Hi 5) n = 0)))), (0, .ref 51), (1, .ref r)] [] (px El Lo Hi B C O Ls nn T) := by
  intro m
  induction m with
  | zero =>
    intro i hi B C hB hC b1 c1 ht
    have hi : i = n := by omega
    subst hi
    refine zz_iload dX2_orderKeeps_55 rfl ?_
    refine zz_iload dX2_orderKeeps_57 rfl ?_
    refine zz_icmp_ge (tgt := 113) dX2_orderKeeps_59 (by decide) (fun _ => ?_) (fun h => absurd (nI_le (by omega) (by omega)) h)
    refine zz_iload_n dX2_orderKeeps_113 rfl ?_
    refine zz_if_eq (tgt := 130) dX2_orderKeeps_114 (by decide) (fun h114 => ?_) (fun h114 => ?_)
    · refine zz_iconst (v := 0) dX2_orderKeeps_130 (by decide) ?_
      refine zz_zret dX2_orderKeeps_131 rfl (by first | rfl | exact zB_nar _) ?_
      refine ⟨?_, B, C, O, hB, hC, hO, rfl⟩
      unfold okB
      rw [if_pos hfo, ht, Bool.true_and]
      try rw [b1, c1] at h123
      first | (rw [zB_0.mp h114]; rfl) | (rw [zB_n.mp h114, decide_eq_true h123]; rfl) | (rw [decide_eq_false h123, Bool.and_false]; rfl)
    · refine zz_aload_n dX2_orderKeeps_117 rfl ?_
      refine zz_callV1 (ci := 0) (c_size (p := 45) (by omega)) dX2_orderKeeps_118 zw_m_X2_132 wYX0_size wDX0_size rfl (by omega) (px_bit (by omega)) rfl (Nat.le_of_ble_eq_true rfl) (by decide) rfl ?_
      refine zz_iload dX2_orderKeeps_121 rfl ?_
      refine zz_icmp_ne (tgt := 130) dX2_orderKeeps_123 (by decide) (fun h123 => ?_) (fun h123 => ?_)
      · refine zz_iconst (v := 0) dX2_orderKeeps_130 (by decide) ?_
        refine zz_zret dX2_orderKeeps_131 rfl (by first | rfl | exact zB_nar _) ?_
        refine ⟨?_, B, C, O, hB, hC, hO, rfl⟩
        unfold okB
        rw [if_pos hfo, ht, Bool.true_and]
        try rw [b1, c1] at h123
        first | (rw [zB_0.mp h114]; rfl) | (rw [zB_n.mp h114, decide_eq_true h123]; rfl) | (rw [decide_eq_false h123, Bool.and_false]; rfl)
      · refine zz_iconst (v := 1) dX2_orderKeeps_126 (by decide) ?_
        refine zz_goto (tgt := 131) dX2_orderKeeps_127 (by decide) ?_
        refine zz_zret dX2_orderKeeps_131 rfl (by first | rfl | exact zB_nar _) ?_
        refine ⟨?_, B, C, O, hB, hC, hO, rfl⟩
        unfold okB
        rw [if_pos hfo, ht, Bool.true_and]
        try rw [b1, c1] at h123
        first | (rw [zB_0.mp h114]; rfl) | (rw [zB_n.mp h114, decide_eq_true h123]; rfl) | (rw [decide_eq_false h123, Bool.and_false]; rfl)
  | succ m ih =>
    intro i hi B C hB hC b1 c1 ht
    obtain ⟨e, he, hx, -⟩ := nxO_in (L := Lo r) (H := Hi r) (i := i) hn (of_decide_eq_true (alb_t.mp hfo i (by omega)))
    have hxn : xN (Lo r) (Hi r) n i = e := by unfold xN; rw [hx, nI_clamp (by omega)]
    refine zz_iload dX2_orderKeeps_55 rfl ?_
    refine zz_iload dX2_orderKeeps_57 rfl ?_
    refine zz_icmp_ge (tgt := 113) dX2_orderKeeps_59 (by decide) (fun h => absurd h (nI_ge (by omega) (by omega))) (fun _ => ?_)
    refine zz_aload_n dX2_orderKeeps_62 rfl ?_
    refine zz_get (ci := 2) (j := 0) zz_inX2 rfl zw_f_X2_12 rfl (by decide) dX2_orderKeeps_63 (by omega) px_th rfl ?_
    refine zz_iload dX2_orderKeeps_66 rfl ?_
    refine zz_callV1 (ci := 3) (c_orderedAt (w := 1) (by omega) (show i < 80 by omega)) dX2_orderKeeps_68 zw_m_X2_122 wYX3_orderedAt wDX3_orderedAt rfl (by omega) (px_wk (by omega)) rfl (Nat.le_of_ble_eq_true rfl) (by decide) rfl ?_
    rw [show O (46 + 1) i = nI e from (hOj i (by omega)).trans hx]
    refine zz_istore dX2_orderKeeps_71 (by decide) ?_
    refine zz_aload_n dX2_orderKeeps_73 rfl ?_
    refine zz_iload dX2_orderKeeps_74 rfl ?_
    refine zz_iload dX2_orderKeeps_76 rfl ?_
    refine zz_iconst (v := 1) dX2_orderKeeps_78 (by decide) ?_
    refine zz_iadd dX2_orderKeeps_79 ?_
    refine zz_iconst (v := 1) dX2_orderKeeps_80 (by decide) ?_
    refine zz_callV0 (ci := 0) (c_putRange (p := 45) (by omega) (nI e) (nI e + 1) true) dX2_orderKeeps_81 zw_m_X2_125 wYX0_putRange wDX0_putRange rfl (by omega) (px_bit (by omega)) rfl (Nat.le_of_ble_eq_true rfl) (by decide) rfl ?_
    refine zz_aload_n dX2_orderKeeps_84 rfl ?_
    refine zz_iload dX2_orderKeeps_85 rfl ?_
    refine zz_aload_n dX2_orderKeeps_87 rfl ?_
    refine zz_get (ci := 2) (j := 4) zz_inX2 rfl zw_f_X2_34 rfl (by decide) dX2_orderKeeps_88 (by omega) px_th rfl ?_
    refine zz_callV0 (ci := 1) (c_rowInto (show r < 8 by omega) (show e < 80 by omega) (p := 44) (by omega)) dX2_orderKeeps_91 zw_m_X2_84 wYX1_rowInto wDX1_rowInto rfl (by omega) (px_rel (by omega)) rfl (Nat.le_of_ble_eq_true rfl) (by decide) rfl ?_
    refine zz_aload_n dX2_orderKeeps_94 rfl ?_
    refine zz_get (ci := 2) (j := 4) zz_inX2 rfl zw_f_X2_34 rfl (by decide) dX2_orderKeeps_95 (by omega) px_th rfl ?_
    refine zz_aload_n dX2_orderKeeps_98 rfl ?_
    refine zz_callV1 (ci := 0) (c_meets (p := 44) (by omega) (q := 45) (by omega)) dX2_orderKeeps_99 zw_m_X2_129 wYX0_meets wDX0_meets rfl (by omega) (px_bit (by omega)) rfl (Nat.le_of_ble_eq_true rfl) (by decide) rfl ?_
    refine zz_if_eq (tgt := 107) dX2_orderKeeps_102 (by decide) (fun h102 => ?_) (fun h102 => ?_)
    · refine zz_iinc (v := nI (i + 1)) dX2_orderKeeps_107 rfl (nI_1 i) (by decide) ?_
      refine zz_goto (tgt := 55) dX2_orderKeeps_110 (by decide) ?_
      have m1 : mtB (Lo r) (Hi r) n i = !(decide (Lo r e &&& ((psO (Lo r) (Hi r) n i).1 ||| lwR (nI e) (nI e + 1)) = 0) && decide (Hi r e &&& ((psO (Lo r) (Hi r) n i).2 ||| hgR (nI e) (nI e + 1)) = 0)) := by
        unfold mtB
        rw [hxn]
        show (!(decide (_ &&& (_ ||| lwR (nxO _ _ _) (nxO _ _ _ + 1)) = 0) && decide (_ &&& (_ ||| hgR (nxO _ _ _) (nxO _ _ _ + 1)) = 0))) = _
        rw [hx]
      simp only [up_at, up_ne _ _ (show (45 : Nat) ≠ 44 by decide), b1, c1, reduceIte] at h102 ⊢
      rw [← m1] at h102
      refine zz_lvs (lv2 := [(5, .int (nI (i + 1))), (4, .int (nI n)), (3, .ref 45), (2, .int (zB (decide (ows (Lo 5) (Hi 5) n = 0)))), (0, .ref 51), (1, .ref r)]) (fun q hq => by simp only [List.mem_cons, List.not_mem_nil, or_false] at hq; rcases hq with rfl | rfl | rfl | rfl | rfl | rfl <;> simp [zz_up1, zz_up2, Value.category]) ?_
      refine ih (i + 1) (by omega) _ _ (frT_u (frT_u hB (by omega) _) (by omega) _) (frT_u (frT_u hC (by omega) _) (by omega) _) ?_ ?_ ?_
      · rw [up_ne _ _ (show (45 : Nat) ≠ 44 by decide), up_at]
        show _ = _ ||| lwR (nxO _ _ _) (nxO _ _ _ + 1)
        rw [hx]
      · rw [up_ne _ _ (show (45 : Nat) ≠ 44 by decide), up_at]
        show _ = _ ||| hgR (nxO _ _ _) (nxO _ _ _ + 1)
        rw [hx]
      · show (alb _ i && !(mtB (Lo r) (Hi r) n i)) = true
        rw [ht, zB_0.mp h102]
        rfl
    · refine zz_iconst (v := 0) dX2_orderKeeps_105 (by decide) ?_
      refine zz_zret dX2_orderKeeps_106 rfl (by first | rfl | exact zB_nar _) ?_
      have m1 : mtB (Lo r) (Hi r) n i = !(decide (Lo r e &&& ((psO (Lo r) (Hi r) n i).1 ||| lwR (nI e) (nI e + 1)) = 0) && decide (Hi r e &&& ((psO (Lo r) (Hi r) n i).2 ||| hgR (nI e) (nI e + 1)) = 0)) := by
        unfold mtB
        rw [hxn]
        show (!(decide (_ &&& (_ ||| lwR (nxO _ _ _) (nxO _ _ _ + 1)) = 0) && decide (_ &&& (_ ||| hgR (nxO _ _ _) (nxO _ _ _ + 1)) = 0))) = _
        rw [hx]
      simp only [up_at, up_ne _ _ (show (45 : Nat) ≠ 44 by decide), b1, c1, reduceIte] at h102
      rw [← m1] at h102
      refine ⟨?_, _, _, O, frT_u (frT_u hB (by omega) _) (by omega) _, frT_u (frT_u hC (by omega) _) (by omega) _, hO, rfl⟩
      unfold okB
      rw [if_pos hfo, alb_f (i := i) (by omega) (show (!(mtB (Lo r) (Hi r) n i)) = false by rw [zB_n.mp h102]; rfl)]
      rfl
set_option maxHeartbeats 1000000 in
set_option maxRecDepth 20000 in
theorem c_ok {r : Nat} (hr : r < 4) {n : Nat} (hE : El r = nI n) (hn : n ≤ 80) (hcl : cln (Lo r) (Hi r) n) (hE5 : El 5 = nI n) : zz_C mX2_orderKeeps 5 0 0 [.ref 51, .ref r] (px El Lo Hi BL BH Od Ls nn T) (fun o τ => o = .inl (some (.int (zB (okB (Lo 5) (Hi 5) (Lo r) (Hi r) n)))) ∧ ∃ B C O, frT BL B ∧ frT BH C ∧ (∀ p, p ≠ 47 → O p = Od p) ∧ τ = px El Lo Hi B C O Ls nn T) := by
  refine zz_start wPX2_orderKeeps rfl rfl (Nat.le_of_ble_eq_true rfl) ?_
  refine zz_aload_n dX2_orderKeeps_0 rfl ?_
  refine zz_get (ci := 2) (j := 1) zz_inX2 rfl zw_f_X2_21 rfl (by decide) dX2_orderKeeps_1 (by omega) px_th rfl ?_
  refine zz_callV1 (ci := 1) (c_ownPairs (r := 5) (by omega) hE5 hn) dX2_orderKeeps_4 zw_m_X2_113 wYX1_ownPairs wDX1_ownPairs rfl (by omega) (px_rel (by omega)) rfl (Nat.le_of_ble_eq_true rfl) (by decide) rfl ?_
  suffices K : zz_E mX2_orderKeeps none 5 0 0 (fun o τ => o = .inl (some (.int (zB (okB (Lo 5) (Hi 5) (Lo r) (Hi r) n)))) ∧ ∃ B C O, frT BL B ∧ frT BH C ∧ (∀ p, p ≠ 47 → O p = Od p) ∧ τ = px El Lo Hi B C O Ls nn T) 15 [(0, .ref 51), (1, .ref r)] [.int (zB (decide (ows (Lo 5) (Hi 5) n = 0)))] (px El Lo Hi BL BH Od Ls nn T) by
    refine zz_if_ne (tgt := 14) dX2_orderKeeps_7 (by decide) (fun h7 => ?_) (fun h7 => ?_)
    · rw [decide_eq_false h7] at K
      refine zz_iconst (v := 0) dX2_orderKeeps_14 (by decide) ?_
      exact K
    · rw [decide_eq_true h7] at K
      refine zz_iconst (v := 1) dX2_orderKeeps_10 (by decide) ?_
      refine zz_goto (tgt := 15) dX2_orderKeeps_11 (by decide) ?_
      exact K
  refine zz_istore_n dX2_orderKeeps_15 (by decide) ?_
  refine zz_aload_n dX2_orderKeeps_16 rfl ?_
  refine zz_get (ci := 2) (j := 0) zz_inX2 rfl zw_f_X2_12 rfl (by decide) dX2_orderKeeps_17 (by omega) px_th rfl ?_
  refine zz_aload_n dX2_orderKeeps_20 rfl ?_
  refine zz_callV (ci := 3) (c_findOrder (w := 1) (by omega) (show r < 8 by omega) hE hn hcl) dX2_orderKeeps_21 zw_m_X2_116 wYX3_findOrder wDX3_findOrder rfl (by omega) (px_wk (by omega)) rfl (Nat.le_of_ble_eq_true rfl) (by decide) (by omega) (by omega) rfl ?_ (fun E τ hE => by cases hE.1)
  rintro _ _ ⟨hv1, B1, C1, O1, hB1, hC1, hO1, hOj1, rfl⟩
  cases hv1
  refine zz_if_ne (tgt := 37) dX2_orderKeeps_24 (by decide) (fun h24 => ?_) (fun h24 => ?_)
  · refine zz_aload_n dX2_orderKeeps_37 rfl ?_
    refine zz_get (ci := 2) (j := 5) zz_inX2 rfl zw_f_X2_38 rfl (by decide) dX2_orderKeeps_38 (by omega) px_th rfl ?_
    refine zz_astore_n dX2_orderKeeps_41 (by decide) ?_
    refine zz_aload_n dX2_orderKeeps_42 rfl ?_
    refine zz_callV0 (ci := 0) (c_clear (p := 45) (by omega)) dX2_orderKeeps_43 zw_m_X2_119 wYX0_clear wDX0_clear rfl (by omega) (px_bit (by omega)) rfl (Nat.le_of_ble_eq_true rfl) (by decide) rfl ?_
    refine zz_aload_n dX2_orderKeeps_46 rfl ?_
    refine zz_callV1 (ci := 1) (c_elementsInside (show r < 8 by omega)) dX2_orderKeeps_47 zw_m_X2_80 wYX1_elementsInside wDX1_elementsInside rfl (by omega) (px_rel (by omega)) rfl (Nat.le_of_ble_eq_true rfl) (by decide) rfl ?_
    refine zz_istore dX2_orderKeeps_50 (by decide) ?_
    refine zz_iconst (v := 0) dX2_orderKeeps_52 (by decide) ?_
    refine zz_istore dX2_orderKeeps_53 (by decide) ?_
    rw [hE]
    refine l_ok hr hE hn hcl (zB_n.mp h24) O1 hO1 (hOj1 (zB_n.mp h24)) n 0 (by omega) _ _ (frT_u (fun p hp => hB1 p (by omega)) (by omega) _) (frT_u (fun p hp => hC1 p (by omega)) (by omega) _) (up_at _ _ _) (up_at _ _ _) rfl
  · suffices K3 : zz_E mX2_orderKeeps none 5 0 0 (fun o τ => o = .inl (some (.int (zB (okB (Lo 5) (Hi 5) (Lo r) (Hi r) n)))) ∧ ∃ B C O, frT BL B ∧ frT BH C ∧ (∀ p, p ≠ 47 → O p = Od p) ∧ τ = px El Lo Hi B C O Ls nn T) 36 [(2, .int (zB (decide (ows (Lo 5) (Hi 5) n = 0)))), (0, .ref 51), (1, .ref r)] [.int (zB (!(decide (ows (Lo 5) (Hi 5) n = 0))))] (px El Lo Hi B1 C1 O1 Ls nn T) by
      cases hz : decide (ows (Lo 5) (Hi 5) n = 0)
      · rw [hz] at K3
        refine zz_iload_n dX2_orderKeeps_27 rfl ?_
        refine zz_if_ne (tgt := 35) dX2_orderKeeps_28 (by decide) (fun q => absurd rfl q) (fun _ => ?_)
        refine zz_iconst (v := 1) dX2_orderKeeps_31 (by decide) ?_
        refine zz_goto (tgt := 36) dX2_orderKeeps_32 (by decide) ?_
        exact K3
      · rw [hz] at K3
        refine zz_iload_n dX2_orderKeeps_27 rfl ?_
        refine zz_if_ne (tgt := 35) dX2_orderKeeps_28 (by decide) (fun _ => ?_) (fun q => absurd q (by decide))
        refine zz_iconst (v := 0) dX2_orderKeeps_35 (by decide) ?_
        exact K3
    refine zz_zret dX2_orderKeeps_36 rfl (zB_nar _) ?_
    refine ⟨?_, B1, C1, O1, fun p hp => hB1 p (by omega), fun p hp => hC1 p (by omega), hO1, rfl⟩
    unfold okB
    rw [if_neg (by rw [show foB (Lo r) (Hi r) n = false from zB_0.mp h24]; simp)]
def cvr (L H : Nat → Int64) : Nat → Int64 := fun k => L k &&& (ig L (L k) (H k) ^^^ -1)
def cvh (L H : Nat → Int64) : Nat → Int64 := fun k => H k &&& (ig H (L k) (H k) ^^^ -1)
def cgB (L5 H5 L6 H6 : Nat → Int64) (n : Nat) : Bool := if ows L5 H5 n = 0 then
  (alb (fun k => sbz (L5 k) (H5 k) ((clP n (cpy n (cvr L5 H5) L6, cpy n (cvh L5 H5) H6) n).1 k) ((clP n (cpy n (cvr L5 H5) L6, cpy n (cvh L5 H5) H6) n).2 k)) n && alb (fun k => sbz ((clP n (cpy n (cvr L5 H5) L6, cpy n (cvh L5 H5) H6) n).1 k) ((clP n (cpy n (cvr L5 H5) L6, cpy n (cvh L5 H5) H6) n).2 k) (L5 k) (H5 k)) n)
  else true
set_option maxHeartbeats 1000000 in
set_option maxRecDepth 20000 in
theorem c_cg {n : Nat} (hE : El 5 = nI n) (hn : n ≤ 80) (hcl : cln (Lo 5) (Hi 5) n) : zz_C mX2_coversGiveClosure 5 0 0 [.ref 51] (px El Lo Hi BL BH Od Ls nn T) (fun o τ => o = .inl (some (.int (zB (cgB (Lo 5) (Hi 5) (Lo 6) (Hi 6) n)))) ∧ ∃ E F G B C, frR El E ∧ frR Lo F ∧ frR Hi G ∧ frT BL B ∧ frT BH C ∧ τ = px E F G B C Od Ls nn T) := by
  refine zz_start wPX2_coversGiveClosure rfl rfl (Nat.le_of_ble_eq_true rfl) ?_
  refine zz_aload_n dX2_coversGiveClosure_0 rfl ?_
  refine zz_get (ci := 2) (j := 1) zz_inX2 rfl zw_f_X2_21 rfl (by decide) dX2_coversGiveClosure_1 (by omega) px_th rfl ?_
  refine zz_callV1 (ci := 1) (c_ownPairs (r := 5) (by omega) hE hn) dX2_coversGiveClosure_4 zw_m_X2_113 wYX1_ownPairs wDX1_ownPairs rfl (by omega) (px_rel (by omega)) rfl (Nat.le_of_ble_eq_true rfl) (by decide) rfl ?_
  refine zz_if_eq (tgt := 12) dX2_coversGiveClosure_7 (by decide) (fun h7 => ?_) (fun h7 => ?_)
  · refine zz_aload_n dX2_coversGiveClosure_12 rfl ?_
    refine zz_get (ci := 2) (j := 2) zz_inX2 rfl zw_f_X2_25 rfl (by decide) dX2_coversGiveClosure_13 (by omega) px_th rfl ?_
    refine zz_aload_n dX2_coversGiveClosure_16 rfl ?_
    refine zz_get (ci := 2) (j := 1) zz_inX2 rfl zw_f_X2_21 rfl (by decide) dX2_coversGiveClosure_17 (by omega) px_th rfl ?_
    refine zz_callV (ci := 1) (c_takeCovers (r := 6) (by omega) (c := 5) (by omega) (by omega) hn hE hcl) dX2_coversGiveClosure_20 zw_m_X2_135 wYX1_takeCovers wDX1_takeCovers rfl (by omega) (px_rel (by omega)) rfl (Nat.le_of_ble_eq_true rfl) (by decide) (by omega) (by omega) rfl ?_ (fun E τ hE => by cases hE.1)
    rintro _ _ ⟨hv1, B1, C1, hB1, hC1, rfl⟩
    cases hv1
    refine zz_aload_n dX2_coversGiveClosure_23 rfl ?_
    refine zz_get (ci := 2) (j := 2) zz_inX2 rfl zw_f_X2_25 rfl (by decide) dX2_coversGiveClosure_24 (by omega) px_th rfl ?_
    refine zz_callV0 (ci := 1) (c_closeUp (r := 6) (by omega) (n := n) (by rw [up_at]; exact hE) hn) dX2_coversGiveClosure_27 zw_m_X2_49 wYX1_closeUp wDX1_closeUp rfl (by omega) (px_rel (by omega)) rfl (Nat.le_of_ble_eq_true rfl) (by decide) rfl ?_
    refine zz_aload_n dX2_coversGiveClosure_30 rfl ?_
    refine zz_get (ci := 2) (j := 2) zz_inX2 rfl zw_f_X2_25 rfl (by decide) dX2_coversGiveClosure_31 (by omega) px_th rfl ?_
    refine zz_aload_n dX2_coversGiveClosure_34 rfl ?_
    refine zz_get (ci := 2) (j := 1) zz_inX2 rfl zw_f_X2_21 rfl (by decide) dX2_coversGiveClosure_35 (by omega) px_th rfl ?_
    refine zz_callV1 (ci := 1) (c_risLike (r := 6) (by omega) (q := 5) (by omega) (n := n) (by rw [up_at]; exact hE) hn (by rw [up_ne _ _ (by decide)]; exact hE)) dX2_coversGiveClosure_38 zw_m_X2_138 wYX1_isLike wDX1_isLike rfl (by omega) (px_rel (by omega)) rfl (Nat.le_of_ble_eq_true rfl) (by decide) rfl ?_
    refine zz_zret dX2_coversGiveClosure_41 rfl (by first | rfl | exact zB_nar _) ?_
    first
      | (refine ⟨?_, El, Lo, Hi, BL, BH, frR_r _, frR_r _, frR_r _, frT_r _, frT_r _, rfl⟩; unfold cgB; rw [if_neg h7]; rfl)
      | (simp only [up_at, up_up, up_ne _ _ (show (5 : Nat) ≠ 6 by decide)]; refine ⟨?_, _, _, _, _, _, frR_u (frR_r _) (by omega) _, frR_u (frR_r _) (by omega) _, frR_u (frR_r _) (by omega) _, frT_m (frT_r _) (s := 24 + 6) (by omega) hB1, frT_m (frT_r _) (s := 24 + 6) (by omega) hC1, rfl⟩; unfold cgB; rw [if_pos h7]; rfl)
  · refine zz_iconst (v := 1) dX2_coversGiveClosure_10 (by decide) ?_
    refine zz_zret dX2_coversGiveClosure_11 rfl (by first | rfl | exact zB_nar _) ?_
    first
      | (refine ⟨?_, El, Lo, Hi, BL, BH, frR_r _, frR_r _, frR_r _, frT_r _, frT_r _, rfl⟩; unfold cgB; rw [if_neg h7]; rfl)
      | (simp only [up_at, up_up, up_ne _ _ (show (5 : Nat) ≠ 6 by decide)]; refine ⟨?_, _, _, _, _, _, frR_u (frR_r _) (by omega) _, frR_u (frR_r _) (by omega) _, frR_u (frR_r _) (by omega) _, frT_m (frT_r _) (s := 24 + 6) (by omega) hB1, frT_m (frT_r _) (s := 24 + 6) (by omega) hC1, rfl⟩; unfold cgB; rw [if_pos h7]; rfl)
end ZZ9
