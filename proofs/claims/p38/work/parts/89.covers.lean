section ZYP
variable {El : Nat → Int32} {Lo Hi : Nat → Nat → Int64} {BL BH : Nat → Int64} {Od : Nat → Nat → Int32} {Ls : Nat → Int32} {n : Nat} {R : Nat → Nat → Nat → Bool} {mk : Nat → Bool} {MB : Nat → Nat → Bool} {rho nu : Nat → Int32} {T : zz_St}
/-- a cover, as far as the elements below i tell -/
def cvP (S : Nat → Nat → Bool) (a c i : Nat) : Bool := S a c && alb (fun j => !(S a j) || !(S j c)) i
theorem cvP_0 {S : Nat → Nat → Bool} {a c : Nat} : cvP S a c 0 = S a c := Bool.and_true _
theorem cvP_s {S : Nat → Nat → Bool} {a c i : Nat} : cvP S a c (i + 1) = (cvP S a c i && (!(S a i) || !(S i c))) := (Bool.and_assoc _ _ _).symm
theorem cvP_f {S : Nat → Nat → Bool} {a c i n : Nat} (h : i ≤ n) (hf : cvP S a c i = false) : cvB S n a c = false := by
  cases e : cvB S n a c with
  | false => rfl
  | true =>
    obtain ⟨h1, h2⟩ := bo_t e
    have h3 : cvP S a c i = true := by
      show (S a c && alb (fun j => !(S a j) || !(S j c)) i) = true
      rw [h1, alb_t.mpr (fun k hk => alb_t.mp h2 k (by omega))]
      rfl
    rw [h3] at hf
    cases hf
theorem cm_1 {n : Nat} {A B : Nat → Nat → Bool} (h : ∀ i k, i < n → k < n → B i k = true → A i k = true) : cmV (!(sbR n A B)) (!(sbR n B A)) ≤ 1 := by
  rw [sbR_t.mpr h]
  cases sbR n A B <;> decide
set_option maxHeartbeats 1000000 in
set_option maxRecDepth 20000 in
theorem ac_by {Q : zz_Q} (hn : n ≤ 80) {S : Nat → Nat → Bool} {r : Nat} (hS : gr n (MB 55) S) (hV : gr n (MB 56) (cvB S n)) {a c : Nat} (ha : a < n) (hc : c < n) (rc rz : Nat) (K : zz_E mL_areCovers none 9 rc rz Q 128 [(8, .int (zB (cvB S n a c))), (7, .int (nI c)), (6, .int (nI a)), (0, .ref 52), (1, .int (nI r)), (2, .int (nI n)), (3, .ref 55), (4, .ref 56)] [] (px El Lo Hi BL BH Od Ls (nI n) (pl MB rho nu T))) : ∀ (m i : Nat), i + m = n → zz_E mL_areCovers none 9 rc rz (Q) 78 [(9, .int (nI i)), (8, .int (zB (cvP S a c i))), (7, .int (nI c)), (6, .int (nI a)), (0, .ref 52), (1, .int (nI r)), (2, .int (nI n)), (3, .ref 55), (4, .ref 56)] [] (px El Lo Hi BL BH Od Ls (nI n) (pl MB rho nu T)) := by
  intro m
  induction m with
  | zero =>
    intro i hi
    have hk : n = i := by omega
    subst hk
    refine zz_iload dL_areCovers_78 rfl ?_
    refine zz_iload_n dL_areCovers_80 rfl ?_
    refine zz_icmp_ge (tgt := 128) dL_areCovers_81 (by decide) (fun _ => ?_) (fun h => absurd (nI_le (Nat.le_refl _) (by omega)) h)
    refine zz_lvl (lv2 := [(8, .int (zB (cvP S a c n))), (7, .int (nI c)), (6, .int (nI a)), (0, .ref 52), (1, .int (nI r)), (2, .int (nI n)), (3, .ref 55), (4, .ref 56)]) ⟨rfl, rfl, rfl, rfl, rfl, rfl, rfl, rfl, trivial⟩ ?_
    exact K
  | succ m ih =>
    intro i hi
    have hk : i < n := by omega
    refine zz_iload dL_areCovers_78 rfl ?_
    refine zz_iload_n dL_areCovers_80 rfl ?_
    refine zz_icmp_ge (tgt := 128) dL_areCovers_81 (by decide) (fun h => absurd h (nI_ge (by omega) (by omega))) (fun _ => ?_)
    refine zz_iload dL_areCovers_84 rfl ?_
    refine zz_if_eq (tgt := 128) dL_areCovers_86 (by decide) (fun h86 => ?_) (fun h86 => ?_)
    · rw [show cvP S a c i = cvB S n a c by rw [zB_0.mp h86, cvP_f (Nat.le_of_lt hk) (zB_0.mp h86)]]
      refine zz_lvl (lv2 := [(8, .int (zB (cvB S n a c))), (7, .int (nI c)), (6, .int (nI a)), (0, .ref 52), (1, .int (nI r)), (2, .int (nI n)), (3, .ref 55), (4, .ref 56)]) ⟨rfl, rfl, rfl, rfl, rfl, rfl, rfl, rfl, trivial⟩ ?_
      exact K
    · refine zz_aload_n dL_areCovers_89 rfl ?_
      refine zz_bipush (v := 80) dL_areCovers_90 (by decide) ?_
      refine zz_iload dL_areCovers_92 rfl ?_
      refine zz_imul dL_areCovers_94 ?_
      refine zz_iload dL_areCovers_95 rfl ?_
      refine zz_iadd dL_areCovers_97 ?_
      refine zz_tope (y := nI (80 * a + i)) (by simp only [i80, i81, pk_mul, nI_add, nI_1]) ?_
      refine zl_qb dL_areCovers_98 (by omega) (by omega) ?_
      rw [hS a i ha hk]
      refine zz_if_eq (tgt := 115) dL_areCovers_99 (by decide) (fun h99 => ?_) (fun h99 => ?_)
      · refine zz_iconst (v := 1) dL_areCovers_115 (by decide) ?_
        refine zz_goto (tgt := 120) dL_areCovers_116 (by decide) ?_
        refine zz_topz (b := cvP S a c (i + 1)) (by
          rw [cvP_s, zB_n.mp h86, Bool.true_and]
          first | (rw [zB_0.mp h99]; rfl) | (rw [zB_n.mp h99, zB_n.mp h112]; rfl) | (rw [zB_0.mp h112, Bool.not_false, Bool.or_true]; rfl)) ?_
        refine zz_istore dL_areCovers_120 (by decide) ?_
        refine zz_iinc (v := nI (i + 1)) dL_areCovers_122 rfl (nI_1 i) (by decide) ?_
        refine zz_goto (tgt := 78) dL_areCovers_125 (by decide) ?_
        refine zz_lvl (lv2 := [(9, .int (nI (i + 1))), (8, .int (zB (cvP S a c (i + 1)))), (7, .int (nI c)), (6, .int (nI a)), (0, .ref 52), (1, .int (nI r)), (2, .int (nI n)), (3, .ref 55), (4, .ref 56)]) ⟨rfl, rfl, rfl, rfl, rfl, rfl, rfl, rfl, rfl, trivial⟩ ?_
        exact ih (i + 1) (by omega)
      · refine zz_aload_n dL_areCovers_102 rfl ?_
        refine zz_bipush (v := 80) dL_areCovers_103 (by decide) ?_
        refine zz_iload dL_areCovers_105 rfl ?_
        refine zz_imul dL_areCovers_107 ?_
        refine zz_iload dL_areCovers_108 rfl ?_
        refine zz_iadd dL_areCovers_110 ?_
        refine zz_tope (y := nI (80 * i + c)) (by simp only [i80, i81, pk_mul, nI_add, nI_1]) ?_
        refine zl_qb dL_areCovers_111 (by omega) (by omega) ?_
        rw [hS i c hk hc]
        refine zz_if_ne (tgt := 119) dL_areCovers_112 (by decide) (fun h112 => ?_) (fun h112 => ?_)
        · refine zz_iconst (v := 0) dL_areCovers_119 (by decide) ?_
          refine zz_topz (b := cvP S a c (i + 1)) (by
            rw [cvP_s, zB_n.mp h86, Bool.true_and]
            first | (rw [zB_0.mp h99]; rfl) | (rw [zB_n.mp h99, zB_n.mp h112]; rfl) | (rw [zB_0.mp h112, Bool.not_false, Bool.or_true]; rfl)) ?_
          refine zz_istore dL_areCovers_120 (by decide) ?_
          refine zz_iinc (v := nI (i + 1)) dL_areCovers_122 rfl (nI_1 i) (by decide) ?_
          refine zz_goto (tgt := 78) dL_areCovers_125 (by decide) ?_
          refine zz_lvl (lv2 := [(9, .int (nI (i + 1))), (8, .int (zB (cvP S a c (i + 1)))), (7, .int (nI c)), (6, .int (nI a)), (0, .ref 52), (1, .int (nI r)), (2, .int (nI n)), (3, .ref 55), (4, .ref 56)]) ⟨rfl, rfl, rfl, rfl, rfl, rfl, rfl, rfl, rfl, trivial⟩ ?_
          exact ih (i + 1) (by omega)
        · refine zz_iconst (v := 1) dL_areCovers_115 (by decide) ?_
          refine zz_goto (tgt := 120) dL_areCovers_116 (by decide) ?_
          refine zz_topz (b := cvP S a c (i + 1)) (by
            rw [cvP_s, zB_n.mp h86, Bool.true_and]
            first | (rw [zB_0.mp h99]; rfl) | (rw [zB_n.mp h99, zB_n.mp h112]; rfl) | (rw [zB_0.mp h112, Bool.not_false, Bool.or_true]; rfl)) ?_
          refine zz_istore dL_areCovers_120 (by decide) ?_
          refine zz_iinc (v := nI (i + 1)) dL_areCovers_122 rfl (nI_1 i) (by decide) ?_
          refine zz_goto (tgt := 78) dL_areCovers_125 (by decide) ?_
          refine zz_lvl (lv2 := [(9, .int (nI (i + 1))), (8, .int (zB (cvP S a c (i + 1)))), (7, .int (nI c)), (6, .int (nI a)), (0, .ref 52), (1, .int (nI r)), (2, .int (nI n)), (3, .ref 55), (4, .ref 56)]) ⟨rfl, rfl, rfl, rfl, rfl, rfl, rfl, rfl, rfl, trivial⟩ ?_
          exact ih (i + 1) (by omega)
set_option maxHeartbeats 1000000 in
set_option maxRecDepth 20000 in
theorem ac_k {Q : zz_Q} (hn : n ≤ 80) {S : Nat → Nat → Bool} {r : Nat} (hS : gr n (MB 55) S) (hV : gr n (MB 56) (cvB S n)) {a : Nat} (ha : a < n) (rc rz : Nat) (K : zz_E mL_areCovers none 9 rc rz Q 152 [(6, .int (nI a)), (0, .ref 52), (1, .int (nI r)), (2, .int (nI n)), (3, .ref 55), (4, .ref 56)] [] (px El Lo Hi BL BH Od Ls (nI n) (pl MB rho nu T))) : ∀ (m i : Nat), i + m = n → zz_E mL_areCovers none 9 rc rz (Q) 57 [(7, .int (nI i)), (6, .int (nI a)), (0, .ref 52), (1, .int (nI r)), (2, .int (nI n)), (3, .ref 55), (4, .ref 56)] [] (px El Lo Hi BL BH Od Ls (nI n) (pl MB rho nu T)) := by
  intro m
  induction m with
  | zero =>
    intro i hi
    have hk : n = i := by omega
    subst hk
    refine zz_iload dL_areCovers_57 rfl ?_
    refine zz_iload_n dL_areCovers_59 rfl ?_
    refine zz_icmp_ge (tgt := 152) dL_areCovers_60 (by decide) (fun _ => ?_) (fun h => absurd (nI_le (Nat.le_refl _) (by omega)) h)
    refine zz_lvl (lv2 := [(6, .int (nI a)), (0, .ref 52), (1, .int (nI r)), (2, .int (nI n)), (3, .ref 55), (4, .ref 56)]) ⟨rfl, rfl, rfl, rfl, rfl, rfl, trivial⟩ ?_
    exact K
  | succ m ih =>
    intro i hi
    have hk : i < n := by omega
    refine zz_iload dL_areCovers_57 rfl ?_
    refine zz_iload_n dL_areCovers_59 rfl ?_
    refine zz_icmp_ge (tgt := 152) dL_areCovers_60 (by decide) (fun h => absurd h (nI_ge (by omega) (by omega))) (fun _ => ?_)
    refine zz_aload_n dL_areCovers_63 rfl ?_
    refine zz_bipush (v := 80) dL_areCovers_64 (by decide) ?_
    refine zz_iload dL_areCovers_66 rfl ?_
    refine zz_imul dL_areCovers_68 ?_
    refine zz_iload dL_areCovers_69 rfl ?_
    refine zz_iadd dL_areCovers_71 ?_
    refine zz_tope (y := nI (80 * a + i)) (by simp only [i80, i81, pk_mul, nI_add, nI_1]) ?_
    refine zl_qb dL_areCovers_72 (by omega) (by omega) ?_
    rw [hS a i ha hk]
    refine zz_topz (b := cvP S a i 0) (by rw [cvP_0]) ?_
    refine zz_istore dL_areCovers_73 (by decide) ?_
    refine zz_iconst (v := 0) dL_areCovers_75 (by decide) ?_
    refine zz_istore dL_areCovers_76 (by decide) ?_
    refine zz_lvl (lv2 := [(9, .int (nI 0)), (8, .int (zB (cvP S a i 0))), (7, .int (nI i)), (6, .int (nI a)), (0, .ref 52), (1, .int (nI r)), (2, .int (nI n)), (3, .ref 55), (4, .ref 56)]) ⟨rfl, rfl, rfl, rfl, rfl, rfl, rfl, rfl, rfl, trivial⟩ ?_
    refine ac_by hn hS hV ha hk _ _ ?_ n 0 (by omega)
    refine zz_iload dL_areCovers_128 rfl ?_
    refine zz_aload dL_areCovers_130 rfl ?_
    refine zz_bipush (v := 80) dL_areCovers_132 (by decide) ?_
    refine zz_iload dL_areCovers_134 rfl ?_
    refine zz_imul dL_areCovers_136 ?_
    refine zz_iload dL_areCovers_137 rfl ?_
    refine zz_iadd dL_areCovers_139 ?_
    refine zz_tope (y := nI (80 * a + i)) (by simp only [i80, i81, pk_mul, nI_add, nI_1]) ?_
    refine zl_qb dL_areCovers_140 (by omega) (by omega) ?_
    rw [hV a i ha hk]
    refine zz_icmp_eq (tgt := 146) dL_areCovers_141 (by decide) (fun _ => ?_) (fun h => absurd rfl h)
    refine zz_iinc (v := nI (i + 1)) dL_areCovers_146 rfl (nI_1 i) (by decide) ?_
    refine zz_goto (tgt := 57) dL_areCovers_149 (by decide) ?_
    refine zz_lvl (lv2 := [(7, .int (nI (i + 1))), (6, .int (nI a)), (0, .ref 52), (1, .int (nI r)), (2, .int (nI n)), (3, .ref 55), (4, .ref 56)]) ⟨rfl, rfl, rfl, rfl, rfl, rfl, rfl, trivial⟩ ?_
    exact ih (i + 1) (by omega)
set_option maxHeartbeats 1000000 in
set_option maxRecDepth 20000 in
theorem ac_i {Q : zz_Q} (hn : n ≤ 80) {S : Nat → Nat → Bool} {r : Nat} (hS : gr n (MB 55) S) (hV : gr n (MB 56) (cvB S n)) (rc rz : Nat) (K : zz_E mL_areCovers none 9 rc rz Q 158 [(0, .ref 52), (1, .int (nI r)), (2, .int (nI n)), (3, .ref 55), (4, .ref 56)] [] (px El Lo Hi BL BH Od Ls (nI n) (pl MB rho nu T))) : ∀ (m i : Nat), i + m = n → zz_E mL_areCovers none 9 rc rz (Q) 48 [(6, .int (nI i)), (0, .ref 52), (1, .int (nI r)), (2, .int (nI n)), (3, .ref 55), (4, .ref 56)] [] (px El Lo Hi BL BH Od Ls (nI n) (pl MB rho nu T)) := by
  intro m
  induction m with
  | zero =>
    intro i hi
    have hk : n = i := by omega
    subst hk
    refine zz_iload dL_areCovers_48 rfl ?_
    refine zz_iload_n dL_areCovers_50 rfl ?_
    refine zz_icmp_ge (tgt := 158) dL_areCovers_51 (by decide) (fun _ => ?_) (fun h => absurd (nI_le (Nat.le_refl _) (by omega)) h)
    refine zz_lvl (lv2 := [(0, .ref 52), (1, .int (nI r)), (2, .int (nI n)), (3, .ref 55), (4, .ref 56)]) ⟨rfl, rfl, rfl, rfl, rfl, trivial⟩ ?_
    exact K
  | succ m ih =>
    intro i hi
    have hk : i < n := by omega
    refine zz_iload dL_areCovers_48 rfl ?_
    refine zz_iload_n dL_areCovers_50 rfl ?_
    refine zz_icmp_ge (tgt := 158) dL_areCovers_51 (by decide) (fun h => absurd h (nI_ge (by omega) (by omega))) (fun _ => ?_)
    refine zz_iconst (v := 0) dL_areCovers_54 (by decide) ?_
    refine zz_istore dL_areCovers_55 (by decide) ?_
    refine zz_lvl (lv2 := [(7, .int (nI 0)), (6, .int (nI i)), (0, .ref 52), (1, .int (nI r)), (2, .int (nI n)), (3, .ref 55), (4, .ref 56)]) ⟨rfl, rfl, rfl, rfl, rfl, rfl, rfl, trivial⟩ ?_
    refine ac_k hn hS hV hk _ _ ?_ n 0 (by omega)
    refine zz_iinc (v := nI (i + 1)) dL_areCovers_152 rfl (nI_1 i) (by decide) ?_
    refine zz_goto (tgt := 48) dL_areCovers_155 (by decide) ?_
    refine zz_lvl (lv2 := [(6, .int (nI (i + 1))), (0, .ref 52), (1, .int (nI r)), (2, .int (nI n)), (3, .ref 55), (4, .ref 56)]) ⟨rfl, rfl, rfl, rfl, rfl, rfl, trivial⟩ ?_
    exact ih (i + 1) (by omega)
set_option maxHeartbeats 1000000 in
set_option maxRecDepth 20000 in
theorem c_areCovers {r : Nat} (hr : r < 3) (hg0 : ¬ rng1 (R r) n) (hgr : gr n (MB 55) (rchB (R r) n)) (hI : cI n El Lo Hi BL BH R mk) : zz_C mL_areCovers 9 324 1944 [.ref 52, .int (nI r), .int (nI n), .ref 55, .ref 56] (px El Lo Hi BL BH Od Ls (nI n) (pl MB rho nu T)) (fun o τ => ∃ X3 MB2, (∀ p, p ≠ 56 → MB2 p = MB p) ∧ xQ n (va_up R 3 X3) mk (pl MB2 rho nu T) (.inl (some (.int 1))) o τ) := by
  have hn := cI_n hI
  have hr3 : r ≠ 3 := by omega
  have hcov : pn n (cvB (rchB (R r) n) n) ≤ pn n (R r) := pn_mono (fun i k hi hk h => cov_sub hi hk h)
  have hpn := pn_6400 hn (R r)
  have hrng : anb (fun k => rchB (R r) n k k) n = false := by
    cases e : anb (fun k => rchB (R r) n k k) n with
    | false => rfl
    | true => exact absurd (ring_b.mp e) hg0
  · refine zz_start wPL_areCovers rfl rfl (Nat.le_of_ble_eq_true rfl) ?_
    refine zz_aload_n dL_areCovers_0 rfl ?_
    refine zz_iconst (v := 1) dL_areCovers_1 (by decide) ?_
    refine zz_iload_n dL_areCovers_2 rfl ?_
    refine zz_iconst (v := 3) dL_areCovers_3 (by decide) ?_
    refine zz_iconst (v := 0) dL_areCovers_4 (by decide) ?_
    refine zz_callSH rfl (dv_cover px_x (nI r) 3 0 (x_cover_v (w := 3) (by omega) (by omega) hrng hI)) dL_areCovers_5 zw_m_L_72 wYL_done wDL_done rfl (Nat.le_of_ble_eq_true rfl) (by decide) (by omega) (by omega) rfl ?_ (fun E τ hE => by cases hE.1)
    rintro v1 τ1 ⟨hv1, El1, Lo1, Hi1, BL1, BH1, Od1, Ls1, hI1, rfl⟩
    cases hv1
    refine zz_istore dL_areCovers_8 (by decide) ?_
    refine zz_aload_n dL_areCovers_10 rfl ?_
    refine zz_iconst (v := 3) dL_areCovers_11 (by decide) ?_
    refine zz_iload_n dL_areCovers_12 rfl ?_
    refine zz_aload dL_areCovers_13 rfl ?_
    refine zz_callS (c_sees (r := 3) (q := 56) (by omega) (by omega) hI1) dL_areCovers_15 zw_m_L_87 wYL_sees wDL_sees rfl (Nat.le_of_ble_eq_true rfl) (by decide) (by omega) (by omega) rfl ?_ (fun E τ hE => by obtain ⟨_, _, _, hE, _⟩ := hE; cases hE)
    rintro v2 τ2 ⟨MB2, hg2, hp2, hv2, El2, Lo2, Hi2, BL2, BH2, Od2, Ls2, hI2, rfl⟩
    cases hv2
    rw [up_at] at hg2
    have hgS : gr n (MB2 55) (rchB (R r) n) := by rw [hp2 55 (by omega)]; exact hgr
    refine zz_iload dL_areCovers_18 rfl ?_
    refine zz_icmp_ne (tgt := 43) dL_areCovers_20 (by decide) (fun h => absurd (by simp only [up_at]) h) (fun _ => ?_)
    refine zz_iload dL_areCovers_23 rfl ?_
    refine zz_aload_n dL_areCovers_25 rfl ?_
    refine zz_iload_n dL_areCovers_26 rfl ?_
    refine zz_callV (ci := 4) (x_count_v (r := r) (by omega) hI2) dL_areCovers_27 zw_m_L_99 wYX4_count wDX4_count rfl (by omega) px_x rfl (Nat.le_of_ble_eq_true rfl) (by decide) (by omega) (by omega) rfl ?_ (fun E τ hE => by cases hE.1)
    rintro v3 τ3 ⟨hv3, El3, Lo3, Hi3, BL3, BH3, Od3, Ls3, hI3, rfl⟩
    cases hv3
    refine zz_icmp_gt (tgt := 43) dL_areCovers_30 (by decide) (fun h => absurd h (by simp only [up_ne _ _ hr3]; exact nI_nlt hcov (show pn n (R r) < 2 ^ 31 by omega))) (fun _ => ?_)
    refine zz_aload_n dL_areCovers_33 rfl ?_
    refine zz_iload_n dL_areCovers_34 rfl ?_
    refine zz_iconst (v := 3) dL_areCovers_35 (by decide) ?_
    refine zz_callV (ci := 4) (x_compare_v (r := r) (w := 3) (by omega) (by omega) hI3) dL_areCovers_36 zw_m_L_150 wYX4_compare wDX4_compare rfl (by omega) px_x rfl (Nat.le_of_ble_eq_true rfl) (by decide) (by omega) (by omega) rfl ?_ (fun E τ hE => by cases hE.1)
    rintro v4 τ4 ⟨hv4, El4, Lo4, Hi4, BL4, BH4, Od4, Ls4, hI4, rfl⟩
    cases hv4
    refine zz_iconst (v := 1) dL_areCovers_39 (by decide) ?_
    refine zz_icmp_le (tgt := 45) dL_areCovers_40 (by decide) (fun _ => ?_) (fun h => absurd (by simp only [up_at, up_ne _ _ hr3]; exact cm_1 (fun i k hi hk q => cov_sub hi hk q)) h)
    refine zz_iconst (v := 0) dL_areCovers_45 (by decide) ?_
    refine zz_istore dL_areCovers_46 (by decide) ?_
    refine zz_lvl (lv2 := [(6, .int (nI 0)), (0, .ref 52), (1, .int (nI r)), (2, .int (nI n)), (3, .ref 55), (4, .ref 56)]) ⟨rfl, rfl, rfl, rfl, rfl, rfl, trivial⟩ ?_
    refine ac_i hn hgS hg2 _ _ ?_ n 0 (by omega)
    refine zz_aload_n dL_areCovers_158 rfl ?_
    refine zz_iconst (v := 3) dL_areCovers_159 (by decide) ?_
    refine zz_iconst (v := 0) dL_areCovers_160 (by decide) ?_
    refine zz_callV (ci := 4) (x_close_v (r := 3) (by omega) false hI4) dL_areCovers_161 zw_m_L_138 wYX4_close wDX4_close rfl (by omega) px_x rfl (Nat.le_of_ble_eq_true rfl) (by decide) (by omega) (by omega) rfl ?_ (fun E τ hE => by cases hE.1)
    rintro v5 τ5 ⟨hv5, El5, Lo5, Hi5, BL5, BH5, Od5, Ls5, hI5, rfl⟩
    cases hv5
    refine zz_istore dL_areCovers_164 (by decide) ?_
    refine zz_aload_n dL_areCovers_166 rfl ?_
    refine zz_iconst (v := 3) dL_areCovers_167 (by decide) ?_
    refine zz_iload_n dL_areCovers_168 rfl ?_
    refine zz_aload dL_areCovers_169 rfl ?_
    refine zz_callS (c_sees (r := 3) (q := 56) (by omega) (by omega) hI5) dL_areCovers_171 zw_m_L_87 wYL_sees wDL_sees rfl (Nat.le_of_ble_eq_true rfl) (by decide) (by omega) (by omega) rfl ?_ (fun E τ hE => by obtain ⟨_, _, _, hE, _⟩ := hE; cases hE)
    rintro v6 τ6 ⟨MB6, hg6, hp6, hv6, El6, Lo6, Hi6, BL6, BH6, Od6, Ls6, hI6, rfl⟩
    cases hv6
    rw [up_up] at hI6
    rw [up_at] at hg6
    have hl6 : ∀ i k, i < n → k < n → MB6 55 (80 * i + k) = MB6 56 (80 * i + k) := fun i k hi hk => by
      rw [hp6 55 (by omega), hgS i k hi hk, hg6 i k hi hk]
      show _ = (rchB (va_up R 3 (cvB (rchB (R r) n) n) 3) n i k || (false && decide (i = k)))
      rw [up_at, cov_cl hg0 hi hk, Bool.false_and, Bool.or_false]
    refine zz_iload dL_areCovers_174 rfl ?_
    refine zz_icmp_ne (tgt := 193) dL_areCovers_176 (by decide) (fun h => absurd (by simp only [up_at]) h) (fun _ => ?_)
    refine zz_aload_n dL_areCovers_179 rfl ?_
    refine zz_aload dL_areCovers_180 rfl ?_
    refine zz_iload_n dL_areCovers_182 rfl ?_
    refine zz_callS1 (k_isLike (q := 55) (w := 56) (by omega) (by omega) hn hl6) dL_areCovers_183 zw_m_L_142 wYL_isLike wDL_isLike rfl (Nat.le_of_ble_eq_true rfl) (by decide) rfl ?_
    refine zz_if_eq (tgt := 193) dL_areCovers_186 (by decide) (fun h => absurd h (by decide)) (fun _ => ?_)
    refine zz_iconst (v := 1) dL_areCovers_189 (by decide) ?_
    refine zz_goto (tgt := 194) dL_areCovers_190 (by decide) ?_
    refine zz_zret dL_areCovers_194 rfl (by first | rfl | exact zB_nar _) ?_
    exact ⟨_, MB6, fun p hp => (hp6 p hp).trans (hp2 p hp), xQ_i rfl hI6⟩
end ZYP
