section ZZLL2
variable {L : Nat} {xs : Nat → Int32} {Q : zz_Q}
theorem lp_lt {L i : Nat} (hL : L ≤ 3072) (hi : i ≤ L) : nI L - 6 < nI i ↔ L < i + 6 := by
  rw [Int32.lt_iff_toInt_lt, show nI L - 6 = nI L - nI 6 from rfl, pk_sub_toInt (by omega) (by omega), nI_toInt (by omega)]
  omega
set_option maxHeartbeats 1000000 in
set_option maxRecDepth 20000 in
theorem L_loop (hL : L ≤ 3072) (hQ : ∀ τ, Q (.inl (some (.int 1))) τ) : ∀ (m i rc rz : Nat), i ≤ L → L ≤ i + 6 * m → m ≤ rc → 6 * m ≤ rz → ∀ (σ : zz_St), JJ σ → zz_E mL_law (some (L, xs)) 9 rc rz Q 28 (LV i) [] σ := by
  intro m
  induction m with
  | zero =>
    intro i rc rz hi hm h1 h2 σ hJ
    refine zz_iload dL_law_28 rfl ?_
    refine zz_aload_n dL_law_30 rfl ?_
    refine zz_slen dL_law_31 ?_
    refine zz_bipush (v := 6) dL_law_32 (by decide) ?_
    refine zz_isub dL_law_34 ?_
    refine zz_icmp_gt (tgt := 2761) dL_law_35 (by decide) (fun _ => ?_) (fun h => absurd ((lp_lt hL hi).mpr (by omega)) h)
    refine zz_iconst (v := 1) dL_law_2761 (by decide) ?_
    refine zz_zret dL_law_2762 rfl rfl ?_
    exact hQ σ
  | succ m ih =>
    intro i rc rz hi hm h1 h2 σ hJ
    refine zz_iload dL_law_28 rfl ?_
    refine zz_aload_n dL_law_30 rfl ?_
    refine zz_slen dL_law_31 ?_
    refine zz_bipush (v := 6) dL_law_32 (by decide) ?_
    refine zz_isub dL_law_34 ?_
    refine zz_icmp_gt (tgt := 2761) dL_law_35 (by decide) (fun _ => ?_) (fun h => ?_)
    · refine zz_iconst (v := 1) dL_law_2761 (by decide) ?_
      refine zz_zret dL_law_2762 rfl rfl ?_
      exact hQ σ
    · have hi6 : i + 6 ≤ L := Nat.le_of_not_lt (fun c => h ((lp_lt hL hi).mpr c))
      have K : ∀ τ, JJ τ → zz_E mL_law (some (L, xs)) 9 (rc - 1) (rz - 6) Q 2755 (LV i) [] τ := fun τ hτ => by
        refine zz_iinc dL_law_2755 rfl (ad_6 i) (by decide) ?_
        refine zz_goto (tgt := 28) dL_law_2758 (by decide) ?_
        exact ih (i + 6) (rc - 1) (rz - 6) (by omega) (by omega) (by omega) (by omega) τ hτ
      refine zz_aload_n dL_law_38 rfl ?_
      refine zz_iload dL_law_39 rfl ?_
      refine zz_sldN dL_law_41 (by omega) hL ?_
      refine zz_bipush (v := 63) dL_law_42 (by decide) ?_
      refine zz_iand dL_law_44 ?_
      rcases pk_ix (xs i &&& 63) (n := 35) (by omega) with hv | hv | ⟨j, hj, hv⟩
      · refine zz_tableOut (tgt := 2755) dL_law_45 (Or.inl (by simpa [Int32.lt_iff_toInt_lt] using hv)) (by decide) ?_
        exact zz_less (by omega) (by omega) (K σ hJ)
      · refine zz_tableOut (tgt := 2755) dL_law_45 (Or.inr (by have h9 := Int32.le_iff_toInt_le.mp hv; rw [nI_toInt (by omega)] at h9; omega)) (by decide) ?_
        exact zz_less (by omega) (by omega) (K σ hJ)
      · refine zz_tope hv ?_
        rcases (show j = 0 ∨ j = 1 ∨ j = 2 ∨ j = 3 ∨ j = 4 ∨ j = 5 ∨ j = 6 ∨ j = 7 ∨ j = 8 ∨ j = 9 ∨ j = 10 ∨ j = 11 ∨ j = 12 ∨ j = 13 ∨ j = 14 ∨ j = 15 ∨ j = 16 ∨ j = 17 ∨ j = 18 ∨ j = 19 ∨ j = 20 ∨ j = 21 ∨ j = 22 ∨ j = 23 ∨ j = 24 ∨ j = 25 ∨ j = 26 ∨ j = 27 ∨ j = 28 ∨ j = 29 ∨ j = 30 ∨ j = 31 ∨ j = 32 ∨ j = 33 ∨ j = 34 by omega) with rfl | rfl | rfl | rfl | rfl | rfl | rfl | rfl | rfl | rfl | rfl | rfl | rfl | rfl | rfl | rfl | rfl | rfl | rfl | rfl | rfl | rfl | rfl | rfl | rfl | rfl | rfl | rfl | rfl | rfl | rfl | rfl | rfl | rfl | rfl
        · refine zz_tableIn (tgt := 200) dL_law_45 (by decide) (by decide) rfl (by decide) ?_
          exact L_begin hi6 hL hJ (by omega) (by omega) K
        · refine zz_tableIn (tgt := 256) dL_law_45 (by decide) (by decide) rfl (by decide) ?_
          exact L_set hi6 hL hJ (by omega) (by omega) K
        · refine zz_tableIn (tgt := 371) dL_law_45 (by decide) (by decide) rfl (by decide) ?_
          exact L_setRange hi6 hL hJ (by omega) (by omega) K
        · refine zz_tableIn (tgt := 491) dL_law_45 (by decide) (by decide) rfl (by decide) ?_
          exact L_flipRange hi6 hL hJ (by omega) (by omega) K
        · refine zz_tableIn (tgt := 583) dL_law_45 (by decide) (by decide) rfl (by decide) ?_
          exact L_setRow hi6 hL hJ (by omega) (by omega) K
        · refine zz_tableIn (tgt := 695) dL_law_45 (by decide) (by decide) rfl (by decide) ?_
          exact L_chain hi6 hL hJ (by omega) (by omega) K
        · refine zz_tableIn (tgt := 751) dL_law_45 (by decide) (by decide) rfl (by decide) ?_
          exact L_draw hi6 hL hJ (by omega) (by omega) K
        · refine zz_tableIn (tgt := 831) dL_law_45 (by decide) (by decide) rfl (by decide) ?_
          exact L_copy hi6 hL hJ (by omega) (by omega) K
        · refine zz_tableIn (tgt := 899) dL_law_45 (by decide) (by decide) rfl (by decide) ?_
          exact L_combine hi6 hL hJ (by omega) (by omega) K
        · refine zz_tableIn (tgt := 979) dL_law_45 (by decide) (by decide) rfl (by decide) ?_
          exact L_compose hi6 hL hJ (by omega) (by omega) K
        · refine zz_tableIn (tgt := 1059) dL_law_45 (by decide) (by decide) rfl (by decide) ?_
          exact L_turn hi6 hL hJ (by omega) (by omega) K
        · refine zz_tableIn (tgt := 1115) dL_law_45 (by decide) (by decide) rfl (by decide) ?_
          exact L_oppose hi6 hL hJ (by omega) (by omega) K
        · refine zz_tableIn (tgt := 1171) dL_law_45 (by decide) (by decide) rfl (by decide) ?_
          exact L_close hi6 hL hJ (by omega) (by omega) K
        · refine zz_tableIn (tgt := 1255) dL_law_45 (by decide) (by decide) rfl (by decide) ?_
          exact L_cover hi6 hL hJ (by omega) (by omega) K
        · refine zz_tableIn (tgt := 1323) dL_law_45 (by decide) (by decide) rfl (by decide) ?_
          exact L_has hi6 hL hJ (by omega) (by omega) K
        · refine zz_tableIn (tgt := 1410) dL_law_45 (by decide) (by decide) rfl (by decide) ?_
          exact L_count hi6 hL hJ (by omega) (by omega) K
        · refine zz_tableIn (tgt := 1466) dL_law_45 (by decide) (by decide) rfl (by decide) ?_
          exact L_countOf hi6 hL hJ (by omega) (by omega) K
        · refine zz_tableIn (tgt := 1534) dL_law_45 (by decide) (by decide) rfl (by decide) ?_
          exact L_beside hi6 hL hJ (by omega) (by omega) K
        · refine zz_tableIn (tgt := 1626) dL_law_45 (by decide) (by decide) rfl (by decide) ?_
          exact L_wordOf hi6 hL hJ (by omega) (by omega) K
        · refine zz_tableIn (tgt := 1705) dL_law_45 (by decide) (by decide) rfl (by decide) ?_
          exact L_meet hi6 hL hJ (by omega) (by omega) K
        · refine zz_tableIn (tgt := 1804) dL_law_45 (by decide) (by decide) rfl (by decide) ?_
          exact L_compare hi6 hL hJ (by omega) (by omega) K
        · refine zz_tableIn (tgt := 1872) dL_law_45 (by decide) (by decide) rfl (by decide) ?_
          exact L_is hi6 hL hJ (by omega) (by omega) K
        · refine zz_tableIn (tgt := 1947) dL_law_45 (by decide) (by decide) rfl (by decide) ?_
          exact L_steps hi6 hL hJ (by omega) (by omega) K
        · refine zz_tableIn (tgt := 2027) dL_law_45 (by decide) (by decide) rfl (by decide) ?_
          exact L_classOf hi6 hL hJ (by omega) (by omega) K
        · refine zz_tableIn (tgt := 2095) dL_law_45 (by decide) (by decide) rfl (by decide) ?_
          exact L_classes hi6 hL hJ (by omega) (by omega) K
        · refine zz_tableIn (tgt := 2151) dL_law_45 (by decide) (by decide) rfl (by decide) ?_
          exact L_hasRing hi6 hL hJ (by omega) (by omega) K
        · refine zz_tableIn (tgt := 2214) dL_law_45 (by decide) (by decide) rfl (by decide) ?_
          exact L_orderAt hi6 hL hJ (by omega) (by omega) K
        · refine zz_tableIn (tgt := 2282) dL_law_45 (by decide) (by decide) rfl (by decide) ?_
          exact L_longestWalk hi6 hL hJ (by omega) (by omega) K
        · refine zz_tableIn (tgt := 2338) dL_law_45 (by decide) (by decide) rfl (by decide) ?_
          exact L_mark hi6 hL hJ (by omega) (by omega) K
        · refine zz_tableIn (tgt := 2434) dL_law_45 (by decide) (by decide) rfl (by decide) ?_
          exact L_spread hi6 hL hJ (by omega) (by omega) K
        · refine zz_tableIn (tgt := 2518) dL_law_45 (by decide) (by decide) rfl (by decide) ?_
          exact L_markedAt hi6 hL hJ (by omega) (by omega) K
        · refine zz_tableIn (tgt := 2574) dL_law_45 (by decide) (by decide) rfl (by decide) ?_
          exact L_endOfMarks hJ (fun τ hτ => zz_less (by omega) (by omega) (K τ hτ))
        · refine zz_tableIn (tgt := 2587) dL_law_45 (by decide) (by decide) rfl (by decide) ?_
          exact L_meanRow hi6 hL hJ (by omega) (by omega) K
        · refine zz_tableIn (tgt := 2664) dL_law_45 (by decide) (by decide) rfl (by decide) ?_
          exact L_share hi6 hL hJ (by omega) (by omega) K
        · refine zz_tableIn (tgt := 2742) dL_law_45 (by decide) (by decide) rfl (by decide) ?_
          exact L_errors hJ (fun τ hτ => zz_less (by omega) (by omega) (K τ hτ))
end ZZLL2
