section ZYW1
variable {El : Nat → Int32} {Lo Hi : Nat → Nat → Int64} {BL BH : Nat → Int64} {Od : Nat → Nat → Int32} {Ls : Nat → Int32} {n : Nat} {R : Nat → Nat → Nat → Bool} {mk : Nat → Bool} {MB : Nat → Nat → Bool} {rho nu : Nat → Int32} {T : zz_St}
theorem bne_of {a b : Bool} (h : ¬ zB a = zB b) : (a != b) = true := by
  cases a <;> cases b <;> first | rfl | exact absurd rfl h
set_option maxHeartbeats 1000000 in
set_option maxRecDepth 20000 in
theorem al_620 {h : Nat} (hh : h < 4) (hn : n ≤ 80) {X Y : Nat → Nat → Bool} (hx : gr n (MB 54) X) (hy : gr n (MB 55) Y) (hz : gr n (MB 56) (fun i k => cmb h (X i k) (Y i k))) (rc rz : Nat) : ∀ (m i : Nat), i + m = 80 * n → ∀ (El : Nat → Int32) (Lo Hi : Nat → Nat → Int64) (BL BH : Nat → Int64) (Od : Nat → Nat → Int32) (Ls : Nat → Int32), cI n El Lo Hi BL BH R mk → zz_E mL_isAlgebra none 9 rc rz (trQ n T) 620 [(17, .int (nI i)), (13, .int (nI h)), (9, .int 1), (0, .ref 52), (1, .ref 57), (2, .int (nI n)), (3, .ref 54), (4, .ref 55), (5, .ref 56)] [] (px El Lo Hi BL BH Od Ls (nI n) (pl MB rho nu T)) := by
  intro m
  induction m with
  | zero =>
    intro i hi El Lo Hi BL BH Od Ls hI
    have hk : 80 * n = i := by omega
    subst hk
    refine zz_iload dL_isAlgebra_620 rfl ?_
    refine zz_bipush (v := 80) dL_isAlgebra_622 (by decide) ?_
    refine zz_iload_n dL_isAlgebra_624 rfl ?_
    refine zz_imul dL_isAlgebra_625 ?_
    refine zz_tope (y := nI (80 * n)) (by simp only [i80, i81, pk_mul, nI_add, nI_1]) ?_
    refine zz_icmp_ge (tgt := 767) dL_isAlgebra_626 (by decide) (fun _ => ?_) (fun h => absurd (nI_le (Nat.le_refl _) (by omega)) h)
    refine zz_iload dL_isAlgebra_767 rfl ?_
    refine zz_zret dL_isAlgebra_769 rfl (by first | rfl | exact zB_nar _) ?_
    exact trQ_i hI
  | succ m ih =>
    intro i hi El Lo Hi BL BH Od Ls hI
    have hk : i < 80 * n := by omega
    refine zz_iload dL_isAlgebra_620 rfl ?_
    refine zz_bipush (v := 80) dL_isAlgebra_622 (by decide) ?_
    refine zz_iload_n dL_isAlgebra_624 rfl ?_
    refine zz_imul dL_isAlgebra_625 ?_
    refine zz_tope (y := nI (80 * n)) (by simp only [i80, i81, pk_mul, nI_add, nI_1]) ?_
    refine zz_icmp_ge (tgt := 767) dL_isAlgebra_626 (by decide) (fun h => absurd h (nI_ge (by omega) (by omega))) (fun _ => ?_)
    refine zz_iload dL_isAlgebra_629 rfl ?_
    refine zz_if_eq (tgt := 767) dL_isAlgebra_631 (by decide) (fun h => absurd h (by decide)) (fun _ => ?_)
    refine zz_iload dL_isAlgebra_634 rfl ?_
    refine zz_bipush (v := 80) dL_isAlgebra_636 (by decide) ?_
    refine zz_irem dL_isAlgebra_638 ((by decide)) ?_
    refine zz_tope (y := nI (i % 80)) (pk_rem (d := 80) (by omega) (by omega) (by omega)) ?_
    refine zz_iload_n dL_isAlgebra_639 rfl ?_
    refine zz_icmp_ge (tgt := 754) dL_isAlgebra_640 (by decide) (fun h640 => ?_) (fun h640 => ?_)
    · refine zz_iconst (v := 1) dL_isAlgebra_754 (by decide) ?_
      refine zz_goto (tgt := 759) dL_isAlgebra_755 (by decide) ?_
      refine zz_istore dL_isAlgebra_759 (by decide) ?_
      refine zz_iinc (v := nI (i + 1)) dL_isAlgebra_761 rfl (nI_1 i) (by decide) ?_
      refine zz_goto (tgt := 620) dL_isAlgebra_764 (by decide) ?_
      refine zz_lvl (lv2 := [(17, .int (nI (i + 1))), (13, .int (nI h)), (9, .int 1), (0, .ref 52), (1, .ref 57), (2, .int (nI n)), (3, .ref 54), (4, .ref 55), (5, .ref 56)]) ⟨rfl, rfl, rfl, rfl, rfl, rfl, rfl, rfl, rfl, trivial⟩ ?_
      exact ih (i + 1) (by omega) _ _ _ _ _ _ _ hI
    · have h2 : i % 80 < n := Nat.lt_of_not_le (fun q => h640 (nI_le q (by omega)))
      have ex := gr_flat hx hk h2
      have ey := gr_flat hy hk h2
      have ez := gr_flat hz hk h2
      refine zz_aload dL_isAlgebra_643 rfl ?_
      refine zz_iload dL_isAlgebra_645 rfl ?_
      refine zl_qb dL_isAlgebra_647 (by omega) (by omega) ?_
      refine zz_iload dL_isAlgebra_648 rfl ?_
      refine zz_if_ne (tgt := 676) dL_isAlgebra_650 (by decide) (fun h650 => ?_) (fun h650 => ?_)
      · refine zz_iload dL_isAlgebra_676 rfl ?_
        refine zz_iconst (v := 1) dL_isAlgebra_678 (by decide) ?_
        refine zz_icmp_ne (tgt := 705) dL_isAlgebra_679 (by decide) (fun h679 => ?_) (fun h679 => ?_)
        · refine zz_iload dL_isAlgebra_705 rfl ?_
          refine zz_iconst (v := 2) dL_isAlgebra_707 (by decide) ?_
          refine zz_icmp_ne (tgt := 734) dL_isAlgebra_708 (by decide) (fun h708 => ?_) (fun h708 => ?_)
          · refine zz_aload_n dL_isAlgebra_734 rfl ?_
            refine zz_iload dL_isAlgebra_735 rfl ?_
            refine zl_qb dL_isAlgebra_737 (by omega) (by omega) ?_
            refine zz_aload dL_isAlgebra_738 rfl ?_
            refine zz_iload dL_isAlgebra_740 rfl ?_
            refine zl_qb dL_isAlgebra_742 (by omega) (by omega) ?_
            refine zz_icmp_eq (tgt := 750) dL_isAlgebra_743 (by decide) (fun h743 => ?_) (fun h743 => ?_)
            · refine zz_iconst (v := 0) dL_isAlgebra_750 (by decide) ?_
              refine zz_topz (b := MB 56 i) (by
                rw [ez]
                show _ = zB (cmb h (X (i / 80) (i % 80)) (Y (i / 80) (i % 80)))
                rw [← ex, ← ey]
                first | (rw [show h = 0 from (nI_eq (a := h) (b := 0) (by omega) (by omega)).mp h650]) | (rw [show h = 1 from (nI_eq (a := h) (b := 1) (by omega) (by omega)).mp h679]) | (rw [show h = 2 from (nI_eq (a := h) (b := 2) (by omega) (by omega)).mp h708]) | (rw [show h = 3 from by
                    have a0 : h ≠ 0 := fun q => h650 (by rw [q]; rfl)
                    have a1 : h ≠ 1 := fun q => h679 (by rw [q]; rfl)
                    have a2 : h ≠ 2 := fun q => h708 (by rw [q]; rfl)
                    omega])
                all_goals first | (rw [cmb_0, zB_n.mp h657]; rfl) | (rw [cmb_0, zB_0.mp h657, zB_n.mp h665]; rfl) | (rw [cmb_0, zB_0.mp h657, zB_0.mp h665]; rfl) | (rw [cmb_1, zB_0.mp h686]; rfl) | (rw [cmb_1, zB_n.mp h686, zB_0.mp h694]; rfl) | (rw [cmb_1, zB_n.mp h686, zB_n.mp h694]; rfl) | (rw [cmb_2, zB_0.mp h715]; rfl) | (rw [cmb_2, zB_n.mp h715, zB_n.mp h723]; rfl) | (rw [cmb_2, zB_n.mp h715, zB_0.mp h723]; rfl) | (rw [cmb_3, zB_inj.mp h743, bne_self_eq_false]; rfl) | (rw [cmb_3, bne_of h743]; rfl)) ?_
              refine zz_icmp_ne (tgt := 758) dL_isAlgebra_751 (by decide) (fun h9 => absurd rfl h9) (fun _ => ?_)
              refine zz_iconst (v := 1) dL_isAlgebra_754 (by decide) ?_
              refine zz_goto (tgt := 759) dL_isAlgebra_755 (by decide) ?_
              refine zz_istore dL_isAlgebra_759 (by decide) ?_
              refine zz_iinc (v := nI (i + 1)) dL_isAlgebra_761 rfl (nI_1 i) (by decide) ?_
              refine zz_goto (tgt := 620) dL_isAlgebra_764 (by decide) ?_
              refine zz_lvl (lv2 := [(17, .int (nI (i + 1))), (13, .int (nI h)), (9, .int 1), (0, .ref 52), (1, .ref 57), (2, .int (nI n)), (3, .ref 54), (4, .ref 55), (5, .ref 56)]) ⟨rfl, rfl, rfl, rfl, rfl, rfl, rfl, rfl, rfl, trivial⟩ ?_
              exact ih (i + 1) (by omega) _ _ _ _ _ _ _ hI
            · refine zz_iconst (v := 1) dL_isAlgebra_746 (by decide) ?_
              refine zz_goto (tgt := 751) dL_isAlgebra_747 (by decide) ?_
              refine zz_topz (b := MB 56 i) (by
                rw [ez]
                show _ = zB (cmb h (X (i / 80) (i % 80)) (Y (i / 80) (i % 80)))
                rw [← ex, ← ey]
                first | (rw [show h = 0 from (nI_eq (a := h) (b := 0) (by omega) (by omega)).mp h650]) | (rw [show h = 1 from (nI_eq (a := h) (b := 1) (by omega) (by omega)).mp h679]) | (rw [show h = 2 from (nI_eq (a := h) (b := 2) (by omega) (by omega)).mp h708]) | (rw [show h = 3 from by
                    have a0 : h ≠ 0 := fun q => h650 (by rw [q]; rfl)
                    have a1 : h ≠ 1 := fun q => h679 (by rw [q]; rfl)
                    have a2 : h ≠ 2 := fun q => h708 (by rw [q]; rfl)
                    omega])
                all_goals first | (rw [cmb_0, zB_n.mp h657]; rfl) | (rw [cmb_0, zB_0.mp h657, zB_n.mp h665]; rfl) | (rw [cmb_0, zB_0.mp h657, zB_0.mp h665]; rfl) | (rw [cmb_1, zB_0.mp h686]; rfl) | (rw [cmb_1, zB_n.mp h686, zB_0.mp h694]; rfl) | (rw [cmb_1, zB_n.mp h686, zB_n.mp h694]; rfl) | (rw [cmb_2, zB_0.mp h715]; rfl) | (rw [cmb_2, zB_n.mp h715, zB_n.mp h723]; rfl) | (rw [cmb_2, zB_n.mp h715, zB_0.mp h723]; rfl) | (rw [cmb_3, zB_inj.mp h743, bne_self_eq_false]; rfl) | (rw [cmb_3, bne_of h743]; rfl)) ?_
              refine zz_icmp_ne (tgt := 758) dL_isAlgebra_751 (by decide) (fun h9 => absurd rfl h9) (fun _ => ?_)
              refine zz_iconst (v := 1) dL_isAlgebra_754 (by decide) ?_
              refine zz_goto (tgt := 759) dL_isAlgebra_755 (by decide) ?_
              refine zz_istore dL_isAlgebra_759 (by decide) ?_
              refine zz_iinc (v := nI (i + 1)) dL_isAlgebra_761 rfl (nI_1 i) (by decide) ?_
              refine zz_goto (tgt := 620) dL_isAlgebra_764 (by decide) ?_
              refine zz_lvl (lv2 := [(17, .int (nI (i + 1))), (13, .int (nI h)), (9, .int 1), (0, .ref 52), (1, .ref 57), (2, .int (nI n)), (3, .ref 54), (4, .ref 55), (5, .ref 56)]) ⟨rfl, rfl, rfl, rfl, rfl, rfl, rfl, rfl, rfl, trivial⟩ ?_
              exact ih (i + 1) (by omega) _ _ _ _ _ _ _ hI
          · refine zz_aload_n dL_isAlgebra_711 rfl ?_
            refine zz_iload dL_isAlgebra_712 rfl ?_
            refine zl_qb dL_isAlgebra_714 (by omega) (by omega) ?_
            refine zz_if_eq (tgt := 730) dL_isAlgebra_715 (by decide) (fun h715 => ?_) (fun h715 => ?_)
            · refine zz_iconst (v := 0) dL_isAlgebra_730 (by decide) ?_
              refine zz_goto (tgt := 751) dL_isAlgebra_731 (by decide) ?_
              refine zz_topz (b := MB 56 i) (by
                rw [ez]
                show _ = zB (cmb h (X (i / 80) (i % 80)) (Y (i / 80) (i % 80)))
                rw [← ex, ← ey]
                first | (rw [show h = 0 from (nI_eq (a := h) (b := 0) (by omega) (by omega)).mp h650]) | (rw [show h = 1 from (nI_eq (a := h) (b := 1) (by omega) (by omega)).mp h679]) | (rw [show h = 2 from (nI_eq (a := h) (b := 2) (by omega) (by omega)).mp h708]) | (rw [show h = 3 from by
                    have a0 : h ≠ 0 := fun q => h650 (by rw [q]; rfl)
                    have a1 : h ≠ 1 := fun q => h679 (by rw [q]; rfl)
                    have a2 : h ≠ 2 := fun q => h708 (by rw [q]; rfl)
                    omega])
                all_goals first | (rw [cmb_0, zB_n.mp h657]; rfl) | (rw [cmb_0, zB_0.mp h657, zB_n.mp h665]; rfl) | (rw [cmb_0, zB_0.mp h657, zB_0.mp h665]; rfl) | (rw [cmb_1, zB_0.mp h686]; rfl) | (rw [cmb_1, zB_n.mp h686, zB_0.mp h694]; rfl) | (rw [cmb_1, zB_n.mp h686, zB_n.mp h694]; rfl) | (rw [cmb_2, zB_0.mp h715]; rfl) | (rw [cmb_2, zB_n.mp h715, zB_n.mp h723]; rfl) | (rw [cmb_2, zB_n.mp h715, zB_0.mp h723]; rfl) | (rw [cmb_3, zB_inj.mp h743, bne_self_eq_false]; rfl) | (rw [cmb_3, bne_of h743]; rfl)) ?_
              refine zz_icmp_ne (tgt := 758) dL_isAlgebra_751 (by decide) (fun h9 => absurd rfl h9) (fun _ => ?_)
              refine zz_iconst (v := 1) dL_isAlgebra_754 (by decide) ?_
              refine zz_goto (tgt := 759) dL_isAlgebra_755 (by decide) ?_
              refine zz_istore dL_isAlgebra_759 (by decide) ?_
              refine zz_iinc (v := nI (i + 1)) dL_isAlgebra_761 rfl (nI_1 i) (by decide) ?_
              refine zz_goto (tgt := 620) dL_isAlgebra_764 (by decide) ?_
              refine zz_lvl (lv2 := [(17, .int (nI (i + 1))), (13, .int (nI h)), (9, .int 1), (0, .ref 52), (1, .ref 57), (2, .int (nI n)), (3, .ref 54), (4, .ref 55), (5, .ref 56)]) ⟨rfl, rfl, rfl, rfl, rfl, rfl, rfl, rfl, rfl, trivial⟩ ?_
              exact ih (i + 1) (by omega) _ _ _ _ _ _ _ hI
            · refine zz_aload dL_isAlgebra_718 rfl ?_
              refine zz_iload dL_isAlgebra_720 rfl ?_
              refine zl_qb dL_isAlgebra_722 (by omega) (by omega) ?_
              refine zz_if_ne (tgt := 730) dL_isAlgebra_723 (by decide) (fun h723 => ?_) (fun h723 => ?_)
              · refine zz_iconst (v := 0) dL_isAlgebra_730 (by decide) ?_
                refine zz_goto (tgt := 751) dL_isAlgebra_731 (by decide) ?_
                refine zz_topz (b := MB 56 i) (by
                  rw [ez]
                  show _ = zB (cmb h (X (i / 80) (i % 80)) (Y (i / 80) (i % 80)))
                  rw [← ex, ← ey]
                  first | (rw [show h = 0 from (nI_eq (a := h) (b := 0) (by omega) (by omega)).mp h650]) | (rw [show h = 1 from (nI_eq (a := h) (b := 1) (by omega) (by omega)).mp h679]) | (rw [show h = 2 from (nI_eq (a := h) (b := 2) (by omega) (by omega)).mp h708]) | (rw [show h = 3 from by
                      have a0 : h ≠ 0 := fun q => h650 (by rw [q]; rfl)
                      have a1 : h ≠ 1 := fun q => h679 (by rw [q]; rfl)
                      have a2 : h ≠ 2 := fun q => h708 (by rw [q]; rfl)
                      omega])
                  all_goals first | (rw [cmb_0, zB_n.mp h657]; rfl) | (rw [cmb_0, zB_0.mp h657, zB_n.mp h665]; rfl) | (rw [cmb_0, zB_0.mp h657, zB_0.mp h665]; rfl) | (rw [cmb_1, zB_0.mp h686]; rfl) | (rw [cmb_1, zB_n.mp h686, zB_0.mp h694]; rfl) | (rw [cmb_1, zB_n.mp h686, zB_n.mp h694]; rfl) | (rw [cmb_2, zB_0.mp h715]; rfl) | (rw [cmb_2, zB_n.mp h715, zB_n.mp h723]; rfl) | (rw [cmb_2, zB_n.mp h715, zB_0.mp h723]; rfl) | (rw [cmb_3, zB_inj.mp h743, bne_self_eq_false]; rfl) | (rw [cmb_3, bne_of h743]; rfl)) ?_
                refine zz_icmp_ne (tgt := 758) dL_isAlgebra_751 (by decide) (fun h9 => absurd rfl h9) (fun _ => ?_)
                refine zz_iconst (v := 1) dL_isAlgebra_754 (by decide) ?_
                refine zz_goto (tgt := 759) dL_isAlgebra_755 (by decide) ?_
                refine zz_istore dL_isAlgebra_759 (by decide) ?_
                refine zz_iinc (v := nI (i + 1)) dL_isAlgebra_761 rfl (nI_1 i) (by decide) ?_
                refine zz_goto (tgt := 620) dL_isAlgebra_764 (by decide) ?_
                refine zz_lvl (lv2 := [(17, .int (nI (i + 1))), (13, .int (nI h)), (9, .int 1), (0, .ref 52), (1, .ref 57), (2, .int (nI n)), (3, .ref 54), (4, .ref 55), (5, .ref 56)]) ⟨rfl, rfl, rfl, rfl, rfl, rfl, rfl, rfl, rfl, trivial⟩ ?_
                exact ih (i + 1) (by omega) _ _ _ _ _ _ _ hI
              · refine zz_iconst (v := 1) dL_isAlgebra_726 (by decide) ?_
                refine zz_goto (tgt := 751) dL_isAlgebra_727 (by decide) ?_
                refine zz_topz (b := MB 56 i) (by
                  rw [ez]
                  show _ = zB (cmb h (X (i / 80) (i % 80)) (Y (i / 80) (i % 80)))
                  rw [← ex, ← ey]
                  first | (rw [show h = 0 from (nI_eq (a := h) (b := 0) (by omega) (by omega)).mp h650]) | (rw [show h = 1 from (nI_eq (a := h) (b := 1) (by omega) (by omega)).mp h679]) | (rw [show h = 2 from (nI_eq (a := h) (b := 2) (by omega) (by omega)).mp h708]) | (rw [show h = 3 from by
                      have a0 : h ≠ 0 := fun q => h650 (by rw [q]; rfl)
                      have a1 : h ≠ 1 := fun q => h679 (by rw [q]; rfl)
                      have a2 : h ≠ 2 := fun q => h708 (by rw [q]; rfl)
                      omega])
                  all_goals first | (rw [cmb_0, zB_n.mp h657]; rfl) | (rw [cmb_0, zB_0.mp h657, zB_n.mp h665]; rfl) | (rw [cmb_0, zB_0.mp h657, zB_0.mp h665]; rfl) | (rw [cmb_1, zB_0.mp h686]; rfl) | (rw [cmb_1, zB_n.mp h686, zB_0.mp h694]; rfl) | (rw [cmb_1, zB_n.mp h686, zB_n.mp h694]; rfl) | (rw [cmb_2, zB_0.mp h715]; rfl) | (rw [cmb_2, zB_n.mp h715, zB_n.mp h723]; rfl) | (rw [cmb_2, zB_n.mp h715, zB_0.mp h723]; rfl) | (rw [cmb_3, zB_inj.mp h743, bne_self_eq_false]; rfl) | (rw [cmb_3, bne_of h743]; rfl)) ?_
                refine zz_icmp_ne (tgt := 758) dL_isAlgebra_751 (by decide) (fun h9 => absurd rfl h9) (fun _ => ?_)
                refine zz_iconst (v := 1) dL_isAlgebra_754 (by decide) ?_
                refine zz_goto (tgt := 759) dL_isAlgebra_755 (by decide) ?_
                refine zz_istore dL_isAlgebra_759 (by decide) ?_
                refine zz_iinc (v := nI (i + 1)) dL_isAlgebra_761 rfl (nI_1 i) (by decide) ?_
                refine zz_goto (tgt := 620) dL_isAlgebra_764 (by decide) ?_
                refine zz_lvl (lv2 := [(17, .int (nI (i + 1))), (13, .int (nI h)), (9, .int 1), (0, .ref 52), (1, .ref 57), (2, .int (nI n)), (3, .ref 54), (4, .ref 55), (5, .ref 56)]) ⟨rfl, rfl, rfl, rfl, rfl, rfl, rfl, rfl, rfl, trivial⟩ ?_
                exact ih (i + 1) (by omega) _ _ _ _ _ _ _ hI
        · refine zz_aload_n dL_isAlgebra_682 rfl ?_
          refine zz_iload dL_isAlgebra_683 rfl ?_
          refine zl_qb dL_isAlgebra_685 (by omega) (by omega) ?_
          refine zz_if_eq (tgt := 701) dL_isAlgebra_686 (by decide) (fun h686 => ?_) (fun h686 => ?_)
          · refine zz_iconst (v := 0) dL_isAlgebra_701 (by decide) ?_
            refine zz_goto (tgt := 751) dL_isAlgebra_702 (by decide) ?_
            refine zz_topz (b := MB 56 i) (by
              rw [ez]
              show _ = zB (cmb h (X (i / 80) (i % 80)) (Y (i / 80) (i % 80)))
              rw [← ex, ← ey]
              first | (rw [show h = 0 from (nI_eq (a := h) (b := 0) (by omega) (by omega)).mp h650]) | (rw [show h = 1 from (nI_eq (a := h) (b := 1) (by omega) (by omega)).mp h679]) | (rw [show h = 2 from (nI_eq (a := h) (b := 2) (by omega) (by omega)).mp h708]) | (rw [show h = 3 from by
                  have a0 : h ≠ 0 := fun q => h650 (by rw [q]; rfl)
                  have a1 : h ≠ 1 := fun q => h679 (by rw [q]; rfl)
                  have a2 : h ≠ 2 := fun q => h708 (by rw [q]; rfl)
                  omega])
              all_goals first | (rw [cmb_0, zB_n.mp h657]; rfl) | (rw [cmb_0, zB_0.mp h657, zB_n.mp h665]; rfl) | (rw [cmb_0, zB_0.mp h657, zB_0.mp h665]; rfl) | (rw [cmb_1, zB_0.mp h686]; rfl) | (rw [cmb_1, zB_n.mp h686, zB_0.mp h694]; rfl) | (rw [cmb_1, zB_n.mp h686, zB_n.mp h694]; rfl) | (rw [cmb_2, zB_0.mp h715]; rfl) | (rw [cmb_2, zB_n.mp h715, zB_n.mp h723]; rfl) | (rw [cmb_2, zB_n.mp h715, zB_0.mp h723]; rfl) | (rw [cmb_3, zB_inj.mp h743, bne_self_eq_false]; rfl) | (rw [cmb_3, bne_of h743]; rfl)) ?_
            refine zz_icmp_ne (tgt := 758) dL_isAlgebra_751 (by decide) (fun h9 => absurd rfl h9) (fun _ => ?_)
            refine zz_iconst (v := 1) dL_isAlgebra_754 (by decide) ?_
            refine zz_goto (tgt := 759) dL_isAlgebra_755 (by decide) ?_
            refine zz_istore dL_isAlgebra_759 (by decide) ?_
            refine zz_iinc (v := nI (i + 1)) dL_isAlgebra_761 rfl (nI_1 i) (by decide) ?_
            refine zz_goto (tgt := 620) dL_isAlgebra_764 (by decide) ?_
            refine zz_lvl (lv2 := [(17, .int (nI (i + 1))), (13, .int (nI h)), (9, .int 1), (0, .ref 52), (1, .ref 57), (2, .int (nI n)), (3, .ref 54), (4, .ref 55), (5, .ref 56)]) ⟨rfl, rfl, rfl, rfl, rfl, rfl, rfl, rfl, rfl, trivial⟩ ?_
            exact ih (i + 1) (by omega) _ _ _ _ _ _ _ hI
          · refine zz_aload dL_isAlgebra_689 rfl ?_
            refine zz_iload dL_isAlgebra_691 rfl ?_
            refine zl_qb dL_isAlgebra_693 (by omega) (by omega) ?_
            refine zz_if_eq (tgt := 701) dL_isAlgebra_694 (by decide) (fun h694 => ?_) (fun h694 => ?_)
            · refine zz_iconst (v := 0) dL_isAlgebra_701 (by decide) ?_
              refine zz_goto (tgt := 751) dL_isAlgebra_702 (by decide) ?_
              refine zz_topz (b := MB 56 i) (by
                rw [ez]
                show _ = zB (cmb h (X (i / 80) (i % 80)) (Y (i / 80) (i % 80)))
                rw [← ex, ← ey]
                first | (rw [show h = 0 from (nI_eq (a := h) (b := 0) (by omega) (by omega)).mp h650]) | (rw [show h = 1 from (nI_eq (a := h) (b := 1) (by omega) (by omega)).mp h679]) | (rw [show h = 2 from (nI_eq (a := h) (b := 2) (by omega) (by omega)).mp h708]) | (rw [show h = 3 from by
                    have a0 : h ≠ 0 := fun q => h650 (by rw [q]; rfl)
                    have a1 : h ≠ 1 := fun q => h679 (by rw [q]; rfl)
                    have a2 : h ≠ 2 := fun q => h708 (by rw [q]; rfl)
                    omega])
                all_goals first | (rw [cmb_0, zB_n.mp h657]; rfl) | (rw [cmb_0, zB_0.mp h657, zB_n.mp h665]; rfl) | (rw [cmb_0, zB_0.mp h657, zB_0.mp h665]; rfl) | (rw [cmb_1, zB_0.mp h686]; rfl) | (rw [cmb_1, zB_n.mp h686, zB_0.mp h694]; rfl) | (rw [cmb_1, zB_n.mp h686, zB_n.mp h694]; rfl) | (rw [cmb_2, zB_0.mp h715]; rfl) | (rw [cmb_2, zB_n.mp h715, zB_n.mp h723]; rfl) | (rw [cmb_2, zB_n.mp h715, zB_0.mp h723]; rfl) | (rw [cmb_3, zB_inj.mp h743, bne_self_eq_false]; rfl) | (rw [cmb_3, bne_of h743]; rfl)) ?_
              refine zz_icmp_ne (tgt := 758) dL_isAlgebra_751 (by decide) (fun h9 => absurd rfl h9) (fun _ => ?_)
              refine zz_iconst (v := 1) dL_isAlgebra_754 (by decide) ?_
              refine zz_goto (tgt := 759) dL_isAlgebra_755 (by decide) ?_
              refine zz_istore dL_isAlgebra_759 (by decide) ?_
              refine zz_iinc (v := nI (i + 1)) dL_isAlgebra_761 rfl (nI_1 i) (by decide) ?_
              refine zz_goto (tgt := 620) dL_isAlgebra_764 (by decide) ?_
              refine zz_lvl (lv2 := [(17, .int (nI (i + 1))), (13, .int (nI h)), (9, .int 1), (0, .ref 52), (1, .ref 57), (2, .int (nI n)), (3, .ref 54), (4, .ref 55), (5, .ref 56)]) ⟨rfl, rfl, rfl, rfl, rfl, rfl, rfl, rfl, rfl, trivial⟩ ?_
              exact ih (i + 1) (by omega) _ _ _ _ _ _ _ hI
            · refine zz_iconst (v := 1) dL_isAlgebra_697 (by decide) ?_
              refine zz_goto (tgt := 751) dL_isAlgebra_698 (by decide) ?_
              refine zz_topz (b := MB 56 i) (by
                rw [ez]
                show _ = zB (cmb h (X (i / 80) (i % 80)) (Y (i / 80) (i % 80)))
                rw [← ex, ← ey]
                first | (rw [show h = 0 from (nI_eq (a := h) (b := 0) (by omega) (by omega)).mp h650]) | (rw [show h = 1 from (nI_eq (a := h) (b := 1) (by omega) (by omega)).mp h679]) | (rw [show h = 2 from (nI_eq (a := h) (b := 2) (by omega) (by omega)).mp h708]) | (rw [show h = 3 from by
                    have a0 : h ≠ 0 := fun q => h650 (by rw [q]; rfl)
                    have a1 : h ≠ 1 := fun q => h679 (by rw [q]; rfl)
                    have a2 : h ≠ 2 := fun q => h708 (by rw [q]; rfl)
                    omega])
                all_goals first | (rw [cmb_0, zB_n.mp h657]; rfl) | (rw [cmb_0, zB_0.mp h657, zB_n.mp h665]; rfl) | (rw [cmb_0, zB_0.mp h657, zB_0.mp h665]; rfl) | (rw [cmb_1, zB_0.mp h686]; rfl) | (rw [cmb_1, zB_n.mp h686, zB_0.mp h694]; rfl) | (rw [cmb_1, zB_n.mp h686, zB_n.mp h694]; rfl) | (rw [cmb_2, zB_0.mp h715]; rfl) | (rw [cmb_2, zB_n.mp h715, zB_n.mp h723]; rfl) | (rw [cmb_2, zB_n.mp h715, zB_0.mp h723]; rfl) | (rw [cmb_3, zB_inj.mp h743, bne_self_eq_false]; rfl) | (rw [cmb_3, bne_of h743]; rfl)) ?_
              refine zz_icmp_ne (tgt := 758) dL_isAlgebra_751 (by decide) (fun h9 => absurd rfl h9) (fun _ => ?_)
              refine zz_iconst (v := 1) dL_isAlgebra_754 (by decide) ?_
              refine zz_goto (tgt := 759) dL_isAlgebra_755 (by decide) ?_
              refine zz_istore dL_isAlgebra_759 (by decide) ?_
              refine zz_iinc (v := nI (i + 1)) dL_isAlgebra_761 rfl (nI_1 i) (by decide) ?_
              refine zz_goto (tgt := 620) dL_isAlgebra_764 (by decide) ?_
              refine zz_lvl (lv2 := [(17, .int (nI (i + 1))), (13, .int (nI h)), (9, .int 1), (0, .ref 52), (1, .ref 57), (2, .int (nI n)), (3, .ref 54), (4, .ref 55), (5, .ref 56)]) ⟨rfl, rfl, rfl, rfl, rfl, rfl, rfl, rfl, rfl, trivial⟩ ?_
              exact ih (i + 1) (by omega) _ _ _ _ _ _ _ hI
      · refine zz_aload_n dL_isAlgebra_653 rfl ?_
        refine zz_iload dL_isAlgebra_654 rfl ?_
        refine zl_qb dL_isAlgebra_656 (by omega) (by omega) ?_
        refine zz_if_ne (tgt := 668) dL_isAlgebra_657 (by decide) (fun h657 => ?_) (fun h657 => ?_)
        · refine zz_iconst (v := 1) dL_isAlgebra_668 (by decide) ?_
          refine zz_goto (tgt := 751) dL_isAlgebra_669 (by decide) ?_
          refine zz_topz (b := MB 56 i) (by
            rw [ez]
            show _ = zB (cmb h (X (i / 80) (i % 80)) (Y (i / 80) (i % 80)))
            rw [← ex, ← ey]
            first | (rw [show h = 0 from (nI_eq (a := h) (b := 0) (by omega) (by omega)).mp h650]) | (rw [show h = 1 from (nI_eq (a := h) (b := 1) (by omega) (by omega)).mp h679]) | (rw [show h = 2 from (nI_eq (a := h) (b := 2) (by omega) (by omega)).mp h708]) | (rw [show h = 3 from by
                have a0 : h ≠ 0 := fun q => h650 (by rw [q]; rfl)
                have a1 : h ≠ 1 := fun q => h679 (by rw [q]; rfl)
                have a2 : h ≠ 2 := fun q => h708 (by rw [q]; rfl)
                omega])
            all_goals first | (rw [cmb_0, zB_n.mp h657]; rfl) | (rw [cmb_0, zB_0.mp h657, zB_n.mp h665]; rfl) | (rw [cmb_0, zB_0.mp h657, zB_0.mp h665]; rfl) | (rw [cmb_1, zB_0.mp h686]; rfl) | (rw [cmb_1, zB_n.mp h686, zB_0.mp h694]; rfl) | (rw [cmb_1, zB_n.mp h686, zB_n.mp h694]; rfl) | (rw [cmb_2, zB_0.mp h715]; rfl) | (rw [cmb_2, zB_n.mp h715, zB_n.mp h723]; rfl) | (rw [cmb_2, zB_n.mp h715, zB_0.mp h723]; rfl) | (rw [cmb_3, zB_inj.mp h743, bne_self_eq_false]; rfl) | (rw [cmb_3, bne_of h743]; rfl)) ?_
          refine zz_icmp_ne (tgt := 758) dL_isAlgebra_751 (by decide) (fun h9 => absurd rfl h9) (fun _ => ?_)
          refine zz_iconst (v := 1) dL_isAlgebra_754 (by decide) ?_
          refine zz_goto (tgt := 759) dL_isAlgebra_755 (by decide) ?_
          refine zz_istore dL_isAlgebra_759 (by decide) ?_
          refine zz_iinc (v := nI (i + 1)) dL_isAlgebra_761 rfl (nI_1 i) (by decide) ?_
          refine zz_goto (tgt := 620) dL_isAlgebra_764 (by decide) ?_
          refine zz_lvl (lv2 := [(17, .int (nI (i + 1))), (13, .int (nI h)), (9, .int 1), (0, .ref 52), (1, .ref 57), (2, .int (nI n)), (3, .ref 54), (4, .ref 55), (5, .ref 56)]) ⟨rfl, rfl, rfl, rfl, rfl, rfl, rfl, rfl, rfl, trivial⟩ ?_
          exact ih (i + 1) (by omega) _ _ _ _ _ _ _ hI
        · refine zz_aload dL_isAlgebra_660 rfl ?_
          refine zz_iload dL_isAlgebra_662 rfl ?_
          refine zl_qb dL_isAlgebra_664 (by omega) (by omega) ?_
          refine zz_if_eq (tgt := 672) dL_isAlgebra_665 (by decide) (fun h665 => ?_) (fun h665 => ?_)
          · refine zz_iconst (v := 0) dL_isAlgebra_672 (by decide) ?_
            refine zz_goto (tgt := 751) dL_isAlgebra_673 (by decide) ?_
            refine zz_topz (b := MB 56 i) (by
              rw [ez]
              show _ = zB (cmb h (X (i / 80) (i % 80)) (Y (i / 80) (i % 80)))
              rw [← ex, ← ey]
              first | (rw [show h = 0 from (nI_eq (a := h) (b := 0) (by omega) (by omega)).mp h650]) | (rw [show h = 1 from (nI_eq (a := h) (b := 1) (by omega) (by omega)).mp h679]) | (rw [show h = 2 from (nI_eq (a := h) (b := 2) (by omega) (by omega)).mp h708]) | (rw [show h = 3 from by
                  have a0 : h ≠ 0 := fun q => h650 (by rw [q]; rfl)
                  have a1 : h ≠ 1 := fun q => h679 (by rw [q]; rfl)
                  have a2 : h ≠ 2 := fun q => h708 (by rw [q]; rfl)
                  omega])
              all_goals first | (rw [cmb_0, zB_n.mp h657]; rfl) | (rw [cmb_0, zB_0.mp h657, zB_n.mp h665]; rfl) | (rw [cmb_0, zB_0.mp h657, zB_0.mp h665]; rfl) | (rw [cmb_1, zB_0.mp h686]; rfl) | (rw [cmb_1, zB_n.mp h686, zB_0.mp h694]; rfl) | (rw [cmb_1, zB_n.mp h686, zB_n.mp h694]; rfl) | (rw [cmb_2, zB_0.mp h715]; rfl) | (rw [cmb_2, zB_n.mp h715, zB_n.mp h723]; rfl) | (rw [cmb_2, zB_n.mp h715, zB_0.mp h723]; rfl) | (rw [cmb_3, zB_inj.mp h743, bne_self_eq_false]; rfl) | (rw [cmb_3, bne_of h743]; rfl)) ?_
            refine zz_icmp_ne (tgt := 758) dL_isAlgebra_751 (by decide) (fun h9 => absurd rfl h9) (fun _ => ?_)
            refine zz_iconst (v := 1) dL_isAlgebra_754 (by decide) ?_
            refine zz_goto (tgt := 759) dL_isAlgebra_755 (by decide) ?_
            refine zz_istore dL_isAlgebra_759 (by decide) ?_
            refine zz_iinc (v := nI (i + 1)) dL_isAlgebra_761 rfl (nI_1 i) (by decide) ?_
            refine zz_goto (tgt := 620) dL_isAlgebra_764 (by decide) ?_
            refine zz_lvl (lv2 := [(17, .int (nI (i + 1))), (13, .int (nI h)), (9, .int 1), (0, .ref 52), (1, .ref 57), (2, .int (nI n)), (3, .ref 54), (4, .ref 55), (5, .ref 56)]) ⟨rfl, rfl, rfl, rfl, rfl, rfl, rfl, rfl, rfl, trivial⟩ ?_
            exact ih (i + 1) (by omega) _ _ _ _ _ _ _ hI
          · refine zz_iconst (v := 1) dL_isAlgebra_668 (by decide) ?_
            refine zz_goto (tgt := 751) dL_isAlgebra_669 (by decide) ?_
            refine zz_topz (b := MB 56 i) (by
              rw [ez]
              show _ = zB (cmb h (X (i / 80) (i % 80)) (Y (i / 80) (i % 80)))
              rw [← ex, ← ey]
              first | (rw [show h = 0 from (nI_eq (a := h) (b := 0) (by omega) (by omega)).mp h650]) | (rw [show h = 1 from (nI_eq (a := h) (b := 1) (by omega) (by omega)).mp h679]) | (rw [show h = 2 from (nI_eq (a := h) (b := 2) (by omega) (by omega)).mp h708]) | (rw [show h = 3 from by
                  have a0 : h ≠ 0 := fun q => h650 (by rw [q]; rfl)
                  have a1 : h ≠ 1 := fun q => h679 (by rw [q]; rfl)
                  have a2 : h ≠ 2 := fun q => h708 (by rw [q]; rfl)
                  omega])
              all_goals first | (rw [cmb_0, zB_n.mp h657]; rfl) | (rw [cmb_0, zB_0.mp h657, zB_n.mp h665]; rfl) | (rw [cmb_0, zB_0.mp h657, zB_0.mp h665]; rfl) | (rw [cmb_1, zB_0.mp h686]; rfl) | (rw [cmb_1, zB_n.mp h686, zB_0.mp h694]; rfl) | (rw [cmb_1, zB_n.mp h686, zB_n.mp h694]; rfl) | (rw [cmb_2, zB_0.mp h715]; rfl) | (rw [cmb_2, zB_n.mp h715, zB_n.mp h723]; rfl) | (rw [cmb_2, zB_n.mp h715, zB_0.mp h723]; rfl) | (rw [cmb_3, zB_inj.mp h743, bne_self_eq_false]; rfl) | (rw [cmb_3, bne_of h743]; rfl)) ?_
            refine zz_icmp_ne (tgt := 758) dL_isAlgebra_751 (by decide) (fun h9 => absurd rfl h9) (fun _ => ?_)
            refine zz_iconst (v := 1) dL_isAlgebra_754 (by decide) ?_
            refine zz_goto (tgt := 759) dL_isAlgebra_755 (by decide) ?_
            refine zz_istore dL_isAlgebra_759 (by decide) ?_
            refine zz_iinc (v := nI (i + 1)) dL_isAlgebra_761 rfl (nI_1 i) (by decide) ?_
            refine zz_goto (tgt := 620) dL_isAlgebra_764 (by decide) ?_
            refine zz_lvl (lv2 := [(17, .int (nI (i + 1))), (13, .int (nI h)), (9, .int 1), (0, .ref 52), (1, .ref 57), (2, .int (nI n)), (3, .ref 54), (4, .ref 55), (5, .ref 56)]) ⟨rfl, rfl, rfl, rfl, rfl, rfl, rfl, rfl, rfl, trivial⟩ ?_
            exact ih (i + 1) (by omega) _ _ _ _ _ _ _ hI
end ZYW1
