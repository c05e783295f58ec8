section ZZAH
variable {σ : zz_St}
set_option maxHeartbeats 1000000 in
set_option maxRecDepth 20000 in
theorem a_has (hJ : JJ σ) (a0 : Int32) (a1 : Int32) (a2 : Int32) : Ag mL_has mX5_has 8 1 6 [.ref 52, .int a0, .int a1, .int a2, .ref 66] [.ref 54, .int a0, .int a1, .int a2] σ TB AB D0 := by
  obtain ⟨n, MB, MI, mt, o, w, T, El, Lo, Hi, BL, BH, Od, Ls, hI, hz, rfl⟩ := JJ_open hJ
  have hn := cI_n hI
  have h1n := cI_1 hI
  have HS0 : ∀ τ, τ = px El Lo Hi BL BH Od Ls (nI n) (pm MB MI (nI n) mt (po o w T)) → HS n (rf (MB 55)) (MB 56) MB MI (nI n) mt o w T τ := fun τ h => ⟨El, Lo, Hi, BL, BH, Od, Ls, hI, h⟩
  cases c1 : isR a0
  · exact Ag_x (k := 1) (by decide) (g_has px_x _ _ _ (x_has_1 c1 _ _) (fun v τ h => by cases h.1) (fun E τ h => ⟨Sum.inr.inj h.1, rfl, HS0 τ h.2⟩)) hz (fun τ0 => hm_x (m_has_x (by rw [c1]; rfl)) (by omega) ⟨_, rfl⟩)
  · obtain ⟨r0, hr0, rfl⟩ := isR_of c1
    cases c2 : isE n a1
    · exact Ag_x (k := 1) (by decide) (g_has px_x _ _ _ (x_has_2 hr0 hn c2 _) (fun v τ h => by cases h.1) (fun E τ h => ⟨Sum.inr.inj h.1, rfl, HS0 τ h.2⟩)) hz (fun τ0 => hm_x (m_has_x (by rw [c1, c2]; rfl)) (by omega) ⟨_, rfl⟩)
    · obtain ⟨j1, hj1, rfl⟩ := isE_of h1n hn c2
      cases c3 : isE n a2
      · exact Ag_x (k := 1) (by decide) (g_has px_x _ _ _ (x_has_3 hr0 hj1 hn c3) (fun v τ h => by cases h.1) (fun E τ h => ⟨Sum.inr.inj h.1, rfl, HS0 τ h.2⟩)) hz (fun τ0 => hm_x (m_has_x (by rw [c1, c2, c3]; rfl)) (by omega) ⟨_, rfl⟩)
      · obtain ⟨j2, hj2, rfl⟩ := isE_of h1n hn c3
        exact Ag_v (g_has px_x _ _ _ (x_has_v hr0 hj1 hj2 hI) hv_b (fun E τ h => by cases h.1)) (fun τ0 => hm_s (m_has_v hr0 hj1 hj2 hn) (by omega) ⟨_, rfl⟩ (AB_i rfl) trivial hz)
set_option maxHeartbeats 1000000 in
set_option maxRecDepth 20000 in
theorem a_count (hJ : JJ σ) (a0 : Int32) : Ag mL_count mX5_count 8 1 6 [.ref 52, .int a0, .ref 66] [.ref 54, .int a0] σ TI AI D0 := by
  obtain ⟨n, MB, MI, mt, o, w, T, El, Lo, Hi, BL, BH, Od, Ls, hI, hz, rfl⟩ := JJ_open hJ
  have hn := cI_n hI
  have h1n := cI_1 hI
  have HS0 : ∀ τ, τ = px El Lo Hi BL BH Od Ls (nI n) (pm MB MI (nI n) mt (po o w T)) → HS n (rf (MB 55)) (MB 56) MB MI (nI n) mt o w T τ := fun τ h => ⟨El, Lo, Hi, BL, BH, Od, Ls, hI, h⟩
  cases c1 : isR a0
  · exact Ag_x (k := 1) (by decide) (g_count px_x _ (x_count_1 c1) (fun v τ h => by cases h.1) (fun E τ h => ⟨Sum.inr.inj h.1, rfl, HS0 τ h.2⟩)) hz (fun τ0 => hm_x (m_count_x c1) (by omega) ⟨_, rfl⟩)
  · obtain ⟨r0, hr0, rfl⟩ := isR_of c1
    exact Ag_v (g_count px_x _ (x_count_v hr0 hI) hv_i (fun E τ h => by cases h.1)) (fun τ0 => hm_s (m_count_v hr0 hn) (by omega) ⟨_, rfl⟩ (AI_i rfl) trivial hz)
set_option maxHeartbeats 1000000 in
set_option maxRecDepth 20000 in
theorem a_countOf (hJ : JJ σ) (a0 : Int32) (a1 : Int32) : Ag mL_countOf mX5_countOf 8 1 6 [.ref 52, .int a0, .int a1, .ref 66] [.ref 54, .int a0, .int a1] σ TI AI D0 := by
  obtain ⟨n, MB, MI, mt, o, w, T, El, Lo, Hi, BL, BH, Od, Ls, hI, hz, rfl⟩ := JJ_open hJ
  have hn := cI_n hI
  have h1n := cI_1 hI
  have HS0 : ∀ τ, τ = px El Lo Hi BL BH Od Ls (nI n) (pm MB MI (nI n) mt (po o w T)) → HS n (rf (MB 55)) (MB 56) MB MI (nI n) mt o w T τ := fun τ h => ⟨El, Lo, Hi, BL, BH, Od, Ls, hI, h⟩
  cases c1 : isR a0
  · exact Ag_x (k := 1) (by decide) (g_countOf px_x _ _ (x_countOf_1 c1 _) (fun v τ h => by cases h.1) (fun E τ h => ⟨Sum.inr.inj h.1, rfl, HS0 τ h.2⟩)) hz (fun τ0 => hm_x (m_countOf_x (by rw [c1]; rfl)) (by omega) ⟨_, rfl⟩)
  · obtain ⟨r0, hr0, rfl⟩ := isR_of c1
    cases c2 : isE n a1
    · exact Ag_x (k := 1) (by decide) (g_countOf px_x _ _ (x_countOf_2 hr0 hn c2) (fun v τ h => by cases h.1) (fun E τ h => ⟨Sum.inr.inj h.1, rfl, HS0 τ h.2⟩)) hz (fun τ0 => hm_x (m_countOf_x (by rw [c1, c2]; rfl)) (by omega) ⟨_, rfl⟩)
    · obtain ⟨j1, hj1, rfl⟩ := isE_of h1n hn c2
      exact Ag_v (g_countOf px_x _ _ (x_countOf_v hr0 hj1 hI) hv_i (fun E τ h => by cases h.1)) (fun τ0 => hm_s (m_countOf_v hr0 hj1 hn) (by omega) ⟨_, rfl⟩ (AI_i rfl) trivial hz)
set_option maxHeartbeats 1000000 in
set_option maxRecDepth 20000 in
theorem a_beside (hJ : JJ σ) (a0 : Int32) (a1 : Int32) (a2 : Int32) (a3 : Int32) : Ag mL_beside mX5_beside 8 1 6 [.ref 52, .int a0, .int a1, .int a2, .int a3, .ref 66] [.ref 54, .int a0, .int a1, .int a2, .int a3] σ TI AI D0 := by
  obtain ⟨n, MB, MI, mt, o, w, T, El, Lo, Hi, BL, BH, Od, Ls, hI, hz, rfl⟩ := JJ_open hJ
  have hn := cI_n hI
  have h1n := cI_1 hI
  have HS0 : ∀ τ, τ = px El Lo Hi BL BH Od Ls (nI n) (pm MB MI (nI n) mt (po o w T)) → HS n (rf (MB 55)) (MB 56) MB MI (nI n) mt o w T τ := fun τ h => ⟨El, Lo, Hi, BL, BH, Od, Ls, hI, h⟩
  cases c1 : isR a0
  · exact Ag_x (k := 1) (by decide) (g_beside px_x _ _ _ _ (x_beside_1 c1 _ _ _) (fun v τ h => by cases h.1) (fun E τ h => Or.inl ⟨Sum.inr.inj h.1, rfl, HS0 τ h.2⟩)) hz (fun τ0 => hm_x (m_beside_x (by rw [c1]; rfl) _) (by omega) ⟨_, rfl⟩)
  · obtain ⟨r0, hr0, rfl⟩ := isR_of c1
    cases c2 : isE n a1
    · exact Ag_x (k := 1) (by decide) (g_beside px_x _ _ _ _ (x_beside_2 hr0 hn c2 _ _) (fun v τ h => by cases h.1) (fun E τ h => Or.inl ⟨Sum.inr.inj h.1, rfl, HS0 τ h.2⟩)) hz (fun τ0 => hm_x (m_beside_x (by rw [c1, c2]; rfl) _) (by omega) ⟨_, rfl⟩)
    · obtain ⟨j1, hj1, rfl⟩ := isE_of h1n hn c2
      cases c3 : isE n a2
      · exact Ag_x (k := 1) (by decide) (g_beside px_x _ _ _ _ (x_beside_3 hr0 hj1 hn c3 _) (fun v τ h => by cases h.1) (fun E τ h => Or.inl ⟨Sum.inr.inj h.1, rfl, HS0 τ h.2⟩)) hz (fun τ0 => hm_x (m_beside_x (by rw [c1, c2, c3]; rfl) _) (by omega) ⟨_, rfl⟩)
      · obtain ⟨j2, hj2, rfl⟩ := isE_of h1n hn c3
        cases c4 : isR a3
        · exact Ag_x (k := 2) (by decide) (g_beside px_x _ _ _ _ (x_beside_4 hr0 hj1 hj2 hn c4) (fun v τ h => by cases h.1) (fun E τ h => Or.inr ⟨Sum.inr.inj h.1, rfl, HS0 τ h.2⟩)) hz (fun τ0 => hm_x (m_beside_y hr0 hj1 hn hj2 c4) (by omega) ⟨_, rfl⟩)
        · obtain ⟨e3, he3, rfl⟩ := isR_of c4
          refine Ag_e (V := fun v => if e3 < 2 then upS (fun k => rf (MB 55) r0 j1 k == (e3 % 2 == 0)) n j2 v else dnS (fun k => rf (MB 55) r0 j1 k == (e3 % 2 == 0)) j2 v) (fun v w h1 h2 => ?_) (g_beside px_x _ _ _ _ (x_beside_v hr0 hj1 hj2 he3 hI) hv_e (fun E τ h => by obtain ⟨v, _, h1, _⟩ := h; cases h1)) hz (fun τ0 => ⟨3, _, by omega, m_beside_v hr0 hj1 hn hj2 he3, fun o' τ' h => ?_⟩)
          · by_cases c : e3 < 2
            · rw [if_pos c] at h1 h2; exact upS_u h1 h2
            · rw [if_neg c] at h1 h2; exact dnS_u h1 h2
          · obtain ⟨h1, v, h2, h3⟩ := h
            exact ⟨v, h2, h3, MB, MI, rfl, rfl, h1⟩
set_option maxHeartbeats 1000000 in
set_option maxRecDepth 20000 in
theorem a_wordOf (hJ : JJ σ) (a0 : Int32) (a1 : Int32) (a2 : Int32) : Ag mL_wordOf mX5_wordOf 8 1 6 [.ref 52, .int a0, .int a1, .int a2, .ref 66] [.ref 54, .int a0, .int a1, .int a2] σ TL AL D0 := by
  obtain ⟨n, MB, MI, mt, o, w, T, El, Lo, Hi, BL, BH, Od, Ls, hI, hz, rfl⟩ := JJ_open hJ
  have hn := cI_n hI
  have h1n := cI_1 hI
  have HS0 : ∀ τ, τ = px El Lo Hi BL BH Od Ls (nI n) (pm MB MI (nI n) mt (po o w T)) → HS n (rf (MB 55)) (MB 56) MB MI (nI n) mt o w T τ := fun τ h => ⟨El, Lo, Hi, BL, BH, Od, Ls, hI, h⟩
  cases c1 : isR a0
  · exact Ag_x (k := 1) (by decide) (g_wordOf px_x _ _ _ (x_wordOf_1 c1 _ _) (fun v τ h => by cases h.1) (fun E τ h => Or.inl ⟨Sum.inr.inj h.1, rfl, HS0 τ h.2⟩)) hz (fun τ0 => hm_x (m_word_x (by rw [c1]; rfl) _) (by omega) ⟨_, rfl⟩)
  · obtain ⟨r0, hr0, rfl⟩ := isR_of c1
    cases c2 : isE n a1
    · exact Ag_x (k := 1) (by decide) (g_wordOf px_x _ _ _ (x_wordOf_2 hr0 hn c2 _) (fun v τ h => by cases h.1) (fun E τ h => Or.inl ⟨Sum.inr.inj h.1, rfl, HS0 τ h.2⟩)) hz (fun τ0 => hm_x (m_word_x (by rw [c1, c2]; rfl) _) (by omega) ⟨_, rfl⟩)
    · obtain ⟨j1, hj1, rfl⟩ := isE_of h1n hn c2
      cases c3 : isW a2
      · exact Ag_x (k := 2) (by decide) (g_wordOf px_x _ _ _ (x_wordOf_3 hr0 hj1 hn c3) (fun v τ h => by cases h.1) (fun E τ h => Or.inr ⟨Sum.inr.inj h.1, rfl, HS0 τ h.2⟩)) hz (fun τ0 => hm_x (m_word_y hr0 hj1 hn c3) (by omega) ⟨_, rfl⟩)
      · obtain ⟨e2, he2, rfl⟩ := isW_of c3
        exact Ag_v (g_wordOf px_x _ _ _ (x_wordOf_v hr0 hj1 he2 hI) hv_l (fun E τ h => by cases h.1)) (fun τ0 => hm_s (m_word_v hr0 hj1 hn he2) (by omega) ⟨_, rfl⟩ (AL_i rfl) trivial hz)
set_option maxHeartbeats 1000000 in
set_option maxRecDepth 20000 in
theorem a_meet (hJ : JJ σ) (a0 : Int32) (a1 : Int32) (a2 : Int32) (a3 : Int32) : Ag mL_meet mX5_meet 8 1 6 [.ref 52, .int a0, .int a1, .int a2, .int a3, .ref 66] [.ref 54, .int a0, .int a1, .int a2, .int a3] σ TB AB D0 := by
  obtain ⟨n, MB, MI, mt, o, w, T, El, Lo, Hi, BL, BH, Od, Ls, hI, hz, rfl⟩ := JJ_open hJ
  have hn := cI_n hI
  have h1n := cI_1 hI
  have HS0 : ∀ τ, τ = px El Lo Hi BL BH Od Ls (nI n) (pm MB MI (nI n) mt (po o w T)) → HS n (rf (MB 55)) (MB 56) MB MI (nI n) mt o w T τ := fun τ h => ⟨El, Lo, Hi, BL, BH, Od, Ls, hI, h⟩
  cases c1 : isR a0
  · exact Ag_x (k := 1) (by decide) (g_meet px_x _ _ _ _ (x_meet_1 c1 _ _ _) (fun v τ h => by cases h.1) (fun E τ h => ⟨Sum.inr.inj h.1, rfl, HS0 τ h.2⟩)) hz (fun τ0 => hm_x (m_meet_x (by rw [c1]; rfl)) (by omega) ⟨_, rfl⟩)
  · obtain ⟨r0, hr0, rfl⟩ := isR_of c1
    cases c2 : isE n a1
    · exact Ag_x (k := 1) (by decide) (g_meet px_x _ _ _ _ (x_meet_2 hr0 hn c2 _ _) (fun v τ h => by cases h.1) (fun E τ h => ⟨Sum.inr.inj h.1, rfl, HS0 τ h.2⟩)) hz (fun τ0 => hm_x (m_meet_x (by rw [c1, c2]; rfl)) (by omega) ⟨_, rfl⟩)
    · obtain ⟨j1, hj1, rfl⟩ := isE_of h1n hn c2
      cases c3 : isR a2
      · exact Ag_x (k := 1) (by decide) (g_meet px_x _ _ _ _ (x_meet_3 hr0 hj1 hn c3 _) (fun v τ h => by cases h.1) (fun E τ h => ⟨Sum.inr.inj h.1, rfl, HS0 τ h.2⟩)) hz (fun τ0 => hm_x (m_meet_x (by rw [c1, c2, c3]; rfl)) (by omega) ⟨_, rfl⟩)
      · obtain ⟨r2, hr2, rfl⟩ := isR_of c3
        cases c4 : isE n a3
        · exact Ag_x (k := 1) (by decide) (g_meet px_x _ _ _ _ (x_meet_4 hr0 hj1 hr2 hn c4) (fun v τ h => by cases h.1) (fun E τ h => ⟨Sum.inr.inj h.1, rfl, HS0 τ h.2⟩)) hz (fun τ0 => hm_x (m_meet_x (by rw [c1, c2, c3, c4]; rfl)) (by omega) ⟨_, rfl⟩)
        · obtain ⟨j3, hj3, rfl⟩ := isE_of h1n hn c4
          exact Ag_v (g_meet px_x _ _ _ _ (x_meet_v hr0 hj1 hr2 hj3 hI) hv_b (fun E τ h => by cases h.1)) (fun τ0 => hm_s (m_meet_v hr0 hj1 hr2 hj3 hn) (by omega) ⟨_, rfl⟩ (AB_i rfl) trivial hz)
set_option maxHeartbeats 1000000 in
set_option maxRecDepth 20000 in
theorem a_compare (hJ : JJ σ) (a0 : Int32) (a1 : Int32) : Ag mL_compare mX5_compare 8 1 6 [.ref 52, .int a0, .int a1, .ref 66] [.ref 54, .int a0, .int a1] σ TI AI D0 := by
  obtain ⟨n, MB, MI, mt, o, w, T, El, Lo, Hi, BL, BH, Od, Ls, hI, hz, rfl⟩ := JJ_open hJ
  have hn := cI_n hI
  have h1n := cI_1 hI
  have HS0 : ∀ τ, τ = px El Lo Hi BL BH Od Ls (nI n) (pm MB MI (nI n) mt (po o w T)) → HS n (rf (MB 55)) (MB 56) MB MI (nI n) mt o w T τ := fun τ h => ⟨El, Lo, Hi, BL, BH, Od, Ls, hI, h⟩
  cases c1 : isR a0
  · exact Ag_x (k := 1) (by decide) (g_compare px_x _ _ (x_compare_1 c1 _) (fun v τ h => by cases h.1) (fun E τ h => ⟨Sum.inr.inj h.1, rfl, HS0 τ h.2⟩)) hz (fun τ0 => hm_x (m_compare_x (by rw [c1]; rfl)) (by omega) ⟨_, rfl⟩)
  · obtain ⟨r0, hr0, rfl⟩ := isR_of c1
    cases c2 : isR a1
    · exact Ag_x (k := 1) (by decide) (g_compare px_x _ _ (x_compare_2 hr0 c2) (fun v τ h => by cases h.1) (fun E τ h => ⟨Sum.inr.inj h.1, rfl, HS0 τ h.2⟩)) hz (fun τ0 => hm_x (m_compare_x (by rw [c1, c2]; rfl)) (by omega) ⟨_, rfl⟩)
    · obtain ⟨r1, hr1, rfl⟩ := isR_of c2
      exact Ag_v (g_compare px_x _ _ (x_compare_v hr0 hr1 hI) hv_i (fun E τ h => by cases h.1)) (fun τ0 => hm_s (m_compare_v hr0 hr1 hn) (by omega) ⟨_, rfl⟩ (AI_i (cmp_v hz hn hr0 hr1)) trivial hz)
set_option maxHeartbeats 1000000 in
set_option maxRecDepth 20000 in
theorem a_is (hJ : JJ σ) (a0 : Int32) (a1 : Int32) : Ag mL_is mX5_is 8 1 6 [.ref 52, .int a0, .int a1, .ref 66] [.ref 54, .int a0, .int a1] σ TB AB D0 := by
  obtain ⟨n, MB, MI, mt, o, w, T, El, Lo, Hi, BL, BH, Od, Ls, hI, hz, rfl⟩ := JJ_open hJ
  have hn := cI_n hI
  have h1n := cI_1 hI
  have HS0 : ∀ τ, τ = px El Lo Hi BL BH Od Ls (nI n) (pm MB MI (nI n) mt (po o w T)) → HS n (rf (MB 55)) (MB 56) MB MI (nI n) mt o w T τ := fun τ h => ⟨El, Lo, Hi, BL, BH, Od, Ls, hI, h⟩
  cases c1 : isR a0
  · exact Ag_x (k := 1) (by decide) (g_is px_x _ _ (x_is_1 c1 _) (fun v τ h => by cases h.1) (fun E τ h => Or.inl ⟨Sum.inr.inj h.1, rfl, HS0 τ h.2⟩)) hz (fun τ0 => hm_x (m_is_x c1 _) (by omega) ⟨_, rfl⟩)
  · obtain ⟨r0, hr0, rfl⟩ := isR_of c1
    cases c2 : isH a1
    · exact Ag_x (k := 2) (by decide) (g_is px_x _ _ (x_is_2 hr0 c2) (fun v τ h => by cases h.1) (fun E τ h => Or.inr ⟨Sum.inr.inj h.1, rfl, HS0 τ h.2⟩)) hz (fun τ0 => hm_x (m_is_y hr0 c2) (by omega) ⟨_, rfl⟩)
    · obtain ⟨e1, he1, rfl⟩ := isH_of c2
      exact Ag_v (g_is px_x _ _ (x_is_v hr0 he1 hI) hv_b (fun E τ h => by cases h.1)) (fun τ0 => ⟨3, _, by omega, m_is_v hr0 hn he1, fun o' τ' h => by
        obtain ⟨S, hS, h1, h2⟩ := h
        exact ⟨_, h1, ⟨_, rfl⟩, AB_i (isV_e he1 hn hS), trivial, _, _, h2, (fun q i k _ _ _ => by rw [up_ne _ _ (show (55 : Nat) ≠ 57 by decide)]), (fun k _ => by rw [up_ne _ _ (show (56 : Nat) ≠ 57 by decide)]), by rw [up_ne _ _ (show (55 : Nat) ≠ 57 by decide)]; exact hz⟩⟩)
set_option maxHeartbeats 1000000 in
set_option maxRecDepth 20000 in
theorem a_steps (hJ : JJ σ) (a0 : Int32) (a1 : Int32) (a2 : Int32) : Ag mL_steps mX5_steps 8 1 6 [.ref 52, .int a0, .int a1, .int a2, .ref 66] [.ref 54, .int a0, .int a1, .int a2] σ TI AI D0 := by
  obtain ⟨n, MB, MI, mt, o, w, T, El, Lo, Hi, BL, BH, Od, Ls, hI, hz, rfl⟩ := JJ_open hJ
  have hn := cI_n hI
  have h1n := cI_1 hI
  have HS0 : ∀ τ, τ = px El Lo Hi BL BH Od Ls (nI n) (pm MB MI (nI n) mt (po o w T)) → HS n (rf (MB 55)) (MB 56) MB MI (nI n) mt o w T τ := fun τ h => ⟨El, Lo, Hi, BL, BH, Od, Ls, hI, h⟩
  cases c1 : isR a0
  · exact Ag_x (k := 1) (by decide) (g_steps px_x _ _ _ (x_steps_1 c1 _ _) (fun v τ h => by cases h.1) (fun E τ h => ⟨Sum.inr.inj h.1, rfl, HS0 τ h.2⟩)) hz (fun τ0 => hm_x (m_steps_x (by rw [c1]; rfl)) (by omega) ⟨_, rfl⟩)
  · obtain ⟨r0, hr0, rfl⟩ := isR_of c1
    cases c2 : isE n a1
    · exact Ag_x (k := 1) (by decide) (g_steps px_x _ _ _ (x_steps_2 hr0 hn c2 _) (fun v τ h => by cases h.1) (fun E τ h => ⟨Sum.inr.inj h.1, rfl, HS0 τ h.2⟩)) hz (fun τ0 => hm_x (m_steps_x (by rw [c1, c2]; rfl)) (by omega) ⟨_, rfl⟩)
    · obtain ⟨j1, hj1, rfl⟩ := isE_of h1n hn c2
      cases c3 : isE n a2
      · exact Ag_x (k := 1) (by decide) (g_steps px_x _ _ _ (x_steps_3 hr0 hj1 hn c3) (fun v τ h => by cases h.1) (fun E τ h => ⟨Sum.inr.inj h.1, rfl, HS0 τ h.2⟩)) hz (fun τ0 => hm_x (m_steps_x (by rw [c1, c2, c3]; rfl)) (by omega) ⟨_, rfl⟩)
      · obtain ⟨j2, hj2, rfl⟩ := isE_of h1n hn c3
        exact Ag_e (V := stS (rf (MB 55) r0) n j1 j2) (fun v w h1 h2 => stS_u h1 h2) (g_steps px_x _ _ _ (x_steps_v hr0 hj1 hj2 hI) hv_e (fun E τ h => by obtain ⟨v, _, h1, _⟩ := h; cases h1)) hz (fun τ0 => ⟨3, _, by omega, m_steps_v hr0 hj1 hn hj2, fun o' τ' h => by
          obtain ⟨v, h1, h2, MI2, h3⟩ := h
          exact ⟨v, h1, h2, MB, MI2, rfl, rfl, h3⟩⟩)
set_option maxHeartbeats 1000000 in
set_option maxRecDepth 20000 in
theorem a_classOf (hJ : JJ σ) (a0 : Int32) (a1 : Int32) : Ag mL_classOf mX5_classOf 8 1 6 [.ref 52, .int a0, .int a1, .ref 66] [.ref 54, .int a0, .int a1] σ TI AI D0 := by
  obtain ⟨n, MB, MI, mt, o, w, T, El, Lo, Hi, BL, BH, Od, Ls, hI, hz, rfl⟩ := JJ_open hJ
  have hn := cI_n hI
  have h1n := cI_1 hI
  have HS0 : ∀ τ, τ = px El Lo Hi BL BH Od Ls (nI n) (pm MB MI (nI n) mt (po o w T)) → HS n (rf (MB 55)) (MB 56) MB MI (nI n) mt o w T τ := fun τ h => ⟨El, Lo, Hi, BL, BH, Od, Ls, hI, h⟩
  cases c1 : isR a0
  · exact Ag_x (k := 1) (by decide) (g_classOf px_x _ _ (x_classOf_1 c1 _) (fun v τ h => by cases h.1) (fun E τ h => ⟨Sum.inr.inj h.1, rfl, HS0 τ h.2⟩)) hz (fun τ0 => hm_x (m_classOf_x (by rw [c1]; rfl)) (by omega) ⟨_, rfl⟩)
  · obtain ⟨r0, hr0, rfl⟩ := isR_of c1
    cases c2 : isE n a1
    · exact Ag_x (k := 1) (by decide) (g_classOf px_x _ _ (x_classOf_2 hr0 hn c2) (fun v τ h => by cases h.1) (fun E τ h => ⟨Sum.inr.inj h.1, rfl, HS0 τ h.2⟩)) hz (fun τ0 => hm_x (m_classOf_x (by rw [c1, c2]; rfl)) (by omega) ⟨_, rfl⟩)
    · obtain ⟨j1, hj1, rfl⟩ := isE_of h1n hn c2
      exact Ag_v (g_classOf px_x _ _ (x_classOf_v hr0 hj1 hI) hv_i (fun E τ h => by cases h.1)) (fun τ0 => hm_sz (m_classOf_v hr0 hj1 hn) (by omega) ⟨_, rfl⟩ (AI_i rfl) trivial hz)
set_option maxHeartbeats 1000000 in
set_option maxRecDepth 20000 in
theorem a_classes (hJ : JJ σ) (a0 : Int32) : Ag mL_classes mX5_classes 8 1 6 [.ref 52, .int a0, .ref 66] [.ref 54, .int a0] σ TI AI D0 := by
  obtain ⟨n, MB, MI, mt, o, w, T, El, Lo, Hi, BL, BH, Od, Ls, hI, hz, rfl⟩ := JJ_open hJ
  have hn := cI_n hI
  have h1n := cI_1 hI
  have HS0 : ∀ τ, τ = px El Lo Hi BL BH Od Ls (nI n) (pm MB MI (nI n) mt (po o w T)) → HS n (rf (MB 55)) (MB 56) MB MI (nI n) mt o w T τ := fun τ h => ⟨El, Lo, Hi, BL, BH, Od, Ls, hI, h⟩
  cases c1 : isR a0
  · exact Ag_x (k := 1) (by decide) (g_classes px_x _ (x_classes_1 c1) (fun v τ h => by cases h.1) (fun E τ h => ⟨Sum.inr.inj h.1, rfl, HS0 τ h.2⟩)) hz (fun τ0 => hm_x (m_classes_x c1) (by omega) ⟨_, rfl⟩)
  · obtain ⟨r0, hr0, rfl⟩ := isR_of c1
    exact Ag_v (g_classes px_x _ (x_classes_v hr0 hI) hv_i (fun E τ h => by cases h.1)) (fun τ0 => hm_sz (m_classes_v hr0 hn) (by omega) ⟨_, rfl⟩ (AI_i rfl) trivial hz)
set_option maxHeartbeats 1000000 in
set_option maxRecDepth 20000 in
theorem a_hasRing (hJ : JJ σ) (a0 : Int32) : Ag mL_hasRing mX5_hasRing 8 1 6 [.ref 52, .int a0, .ref 66] [.ref 54, .int a0] σ TB AB D0 := by
  obtain ⟨n, MB, MI, mt, o, w, T, El, Lo, Hi, BL, BH, Od, Ls, hI, hz, rfl⟩ := JJ_open hJ
  have hn := cI_n hI
  have h1n := cI_1 hI
  have HS0 : ∀ τ, τ = px El Lo Hi BL BH Od Ls (nI n) (pm MB MI (nI n) mt (po o w T)) → HS n (rf (MB 55)) (MB 56) MB MI (nI n) mt o w T τ := fun τ h => ⟨El, Lo, Hi, BL, BH, Od, Ls, hI, h⟩
  cases c1 : isR a0
  · exact Ag_x (k := 1) (by decide) (g_hasRing px_x _ (x_hasRing_1 c1) (fun v τ h => by cases h.1) (fun E τ h => ⟨Sum.inr.inj h.1, rfl, HS0 τ h.2⟩)) hz (fun τ0 => hm_x (m_hasRing_x c1) (by omega) ⟨_, rfl⟩)
  · obtain ⟨r0, hr0, rfl⟩ := isR_of c1
    exact Ag_v (g_hasRing px_x _ (x_hasRing_v hr0 hI) hv_b (fun E τ h => by cases h.1)) (fun τ0 => hm_sz (m_hasRing_v hr0 hn) (by omega) ⟨_, rfl⟩ (AB_i rfl) trivial hz)
set_option maxHeartbeats 1000000 in
set_option maxRecDepth 20000 in
theorem a_orderAt (hJ : JJ σ) (a0 : Int32) (a1 : Int32) : Ag mL_orderAt mX5_orderAt 8 1 6 [.ref 52, .int a0, .int a1, .ref 66] [.ref 54, .int a0, .int a1] σ TI AI D0 := by
  obtain ⟨n, MB, MI, mt, o, w, T, El, Lo, Hi, BL, BH, Od, Ls, hI, hz, rfl⟩ := JJ_open hJ
  have hn := cI_n hI
  have h1n := cI_1 hI
  have HS0 : ∀ τ, τ = px El Lo Hi BL BH Od Ls (nI n) (pm MB MI (nI n) mt (po o w T)) → HS n (rf (MB 55)) (MB 56) MB MI (nI n) mt o w T τ := fun τ h => ⟨El, Lo, Hi, BL, BH, Od, Ls, hI, h⟩
  cases c1 : isR a0
  · exact Ag_x (k := 1) (by decide) (g_orderAt px_x _ _ (x_orderAt_1 c1 _) (fun v τ h => by cases h.1) (fun E τ h => Or.inl ⟨Sum.inr.inj h.1, rfl, HS0 τ h.2⟩)) hz (fun τ0 => hm_x (m_orderAt_x (by rw [c1]; rfl)) (by omega) ⟨_, rfl⟩)
  · obtain ⟨r0, hr0, rfl⟩ := isR_of c1
    cases c2 : isE n a1
    · exact Ag_x (k := 1) (by decide) (g_orderAt px_x _ _ (x_orderAt_2 hr0 hn c2) (fun v τ h => by cases h.1) (fun E τ h => Or.inl ⟨Sum.inr.inj h.1, rfl, HS0 τ h.2⟩)) hz (fun τ0 => hm_x (m_orderAt_x (by rw [c1, c2]; rfl)) (by omega) ⟨_, rfl⟩)
    · obtain ⟨j1, hj1, rfl⟩ := isE_of h1n hn c2
      by_cases ho : orN (rf (MB 55) r0) n = n
      · exact Ag_v (g_orderAt px_x _ _ (x_orderAt_v hr0 hj1 ho hI) hv_i (fun E τ h => by cases h.1)) (fun τ0 => hm_sz (m_orderAt_v hr0 hj1 hn ho) (by omega) ⟨_, rfl⟩ (AI_i rfl) trivial hz)
      · exact Ag_x (k := 2) (by decide) (g_orderAt px_x _ _ (x_orderAt_3 hr0 hj1 ho hI) (fun v τ h => by cases h.1) (fun E τ h => Or.inr ⟨Sum.inr.inj h.1, rfl, h.2⟩)) hz (fun τ0 => hm_xz (m_orderAt_y hr0 hj1 hn (by have := orN_le (rl MB r0) n; have h9 : ¬ orN (rl MB r0) n = n := ho; omega)) (by omega) ⟨_, rfl⟩)
set_option maxHeartbeats 1000000 in
set_option maxRecDepth 20000 in
theorem a_longestWalk (hJ : JJ σ) (a0 : Int32) : Ag mL_longestWalk mX5_longestWalk 8 1 6 [.ref 52, .int a0, .ref 66] [.ref 54, .int a0] σ TI AI D0 := by
  obtain ⟨n, MB, MI, mt, o, w, T, El, Lo, Hi, BL, BH, Od, Ls, hI, hz, rfl⟩ := JJ_open hJ
  have hn := cI_n hI
  have h1n := cI_1 hI
  have HS0 : ∀ τ, τ = px El Lo Hi BL BH Od Ls (nI n) (pm MB MI (nI n) mt (po o w T)) → HS n (rf (MB 55)) (MB 56) MB MI (nI n) mt o w T τ := fun τ h => ⟨El, Lo, Hi, BL, BH, Od, Ls, hI, h⟩
  cases c1 : isR a0
  · exact Ag_x (k := 1) (by decide) (g_longestWalk px_x _ (x_longestWalk_1 c1) (fun v τ h => by cases h.1) (fun E τ h => Or.inl ⟨Sum.inr.inj h.1, rfl, HS0 τ h.2⟩)) hz (fun τ0 => hm_x (m_lw_x c1) (by omega) ⟨_, rfl⟩)
  · obtain ⟨r0, hr0, rfl⟩ := isR_of c1
    by_cases ho : orN (rf (MB 55) r0) n = n
    · refine Ag_e (MI := MI) (mt := mt) (o := o) (w := w) (T := T) (V := fun v => ∃ z, z ≤ n ∧ lwS (rf (MB 55) r0) n z ∧ v = nI z) (fun v w h1 h2 => ?_) (g_longestWalk px_x _ (x_longestWalk_v hr0 (or_ring.mp ho) hI) (fun v τ h => ?_) (fun E τ h => ?_)) hz (fun τ0 => ⟨4, _, by omega, m_lw_v hr0 hn h1n ho, fun o' τ' h => ?_⟩)
      · obtain ⟨a, _, h3, rfl⟩ := h1
        obtain ⟨b, _, h4, rfl⟩ := h2
        rw [lwS_u h3 h4]
      · obtain ⟨z, h1, h2, h3, h4⟩ := h
        exact ⟨nI z, o, Sum.inl.inj h3, HS_66 h4, rfl, nI z, ⟨z, h1, h2, rfl⟩, HS_u h4 _⟩
      · obtain ⟨z, h1, h2, h3, h4⟩ := h
        cases h3
      · obtain ⟨z, h1, h2, h3, MB3, MI3, e1, e2, e3⟩ := h
        exact ⟨nI z, h3, ⟨z, h1, h2, rfl⟩, MB3, MI3, e1, e2, e3⟩
    · exact Ag_x (k := 2) (by decide) (g_longestWalk px_x _ (x_longestWalk_2 hr0 (Classical.byContradiction (fun c => ho (or_ring.mpr c))) hI) (fun v τ h => by cases h.1) (fun E τ h => Or.inr ⟨Sum.inr.inj h.1, rfl, h.2⟩)) hz (fun τ0 => hm_xz (m_lw_y hr0 hn h1n (by have := orN_le (rl MB r0) n; have h9 : ¬ orN (rl MB r0) n = n := ho; omega)) (by omega) ⟨_, rfl⟩)
set_option maxHeartbeats 1000000 in
set_option maxRecDepth 20000 in
theorem a_mark (hJ : JJ σ) (a0 : Int32) (a1 : Int32) (b : Bool) : Ag mL_mark mX5_mark 8 1 6 [.ref 52, .int a0, .int a1, .int (zB b), .ref 66] [.ref 54, .int a0, .int a1, .int (zB b)] σ TI AI D0 := by
  obtain ⟨n, MB, MI, mt, o, w, T, El, Lo, Hi, BL, BH, Od, Ls, hI, hz, rfl⟩ := JJ_open hJ
  have hn := cI_n hI
  have h1n := cI_1 hI
  have HS0 : ∀ τ, τ = px El Lo Hi BL BH Od Ls (nI n) (pm MB MI (nI n) mt (po o w T)) → HS n (rf (MB 55)) (MB 56) MB MI (nI n) mt o w T τ := fun τ h => ⟨El, Lo, Hi, BL, BH, Od, Ls, hI, h⟩
  cases c1 : isG n a0 a1
  · exact Ag_x (k := 1) (by decide) (g_mark px_x _ _ _ (x_mark_1 c1 _) (fun v τ h => by cases h.1) (fun E τ h => ⟨Sum.inr.inj h.1, rfl, HS0 τ h.2⟩)) hz (fun τ0 => hm_x (m_mark_x c1 b) (by omega) ⟨_, rfl⟩)
  · obtain ⟨x0, y0, hx0, hy0, rfl, rfl⟩ := isG_of hn c1
    exact Ag_v (g_mark px_x _ _ _ (x_mark_v hx0 hy0 b hI) hv_i (fun E τ h => by cases h.1)) (fun τ0 => hm_v (m_mark_v hn hx0 hy0 b) (by omega) ⟨_, rfl⟩ (AI_i (by rw [cnt_c (fun k _ => rng0_e)])) trivial (fun q i k _ _ _ => by rw [up_ne _ _ (show (55 : Nat) ≠ 56 by decide)]) (fun k _ => by rw [up_at]; exact rng0_e) (by rw [up_ne _ _ (show (55 : Nat) ≠ 56 by decide)]; exact hz))
set_option maxHeartbeats 1000000 in
set_option maxRecDepth 20000 in
theorem a_spread (hJ : JJ σ) (a0 : Int32) (b : Bool) : Ag mL_spread mX5_spread 8 1 6 [.ref 52, .int a0, .int (zB b), .ref 66] [.ref 54, .int a0, .int (zB b)] σ TI AI D0 := by
  obtain ⟨n, MB, MI, mt, o, w, T, El, Lo, Hi, BL, BH, Od, Ls, hI, hz, rfl⟩ := JJ_open hJ
  have hn := cI_n hI
  have h1n := cI_1 hI
  have HS0 : ∀ τ, τ = px El Lo Hi BL BH Od Ls (nI n) (pm MB MI (nI n) mt (po o w T)) → HS n (rf (MB 55)) (MB 56) MB MI (nI n) mt o w T τ := fun τ h => ⟨El, Lo, Hi, BL, BH, Od, Ls, hI, h⟩
  cases c1 : isR a0
  · exact Ag_x (k := 1) (by decide) (g_spread px_x _ _ (x_spread_1 c1 _) (fun v τ h => by cases h.1) (fun E τ h => ⟨Sum.inr.inj h.1, rfl, HS0 τ h.2⟩)) hz (fun τ0 => hm_x (m_spread_x c1 b) (by omega) ⟨_, rfl⟩)
  · obtain ⟨r0, hr0, rfl⟩ := isR_of c1
    exact Ag_v (g_spread px_x _ _ (x_spread_v hr0 b hI) hv_i (fun E τ h => by cases h.1)) (fun τ0 => hm_v (m_spread_v hr0 hn b) (by omega) ⟨_, rfl⟩ (AI_i (by rw [cnt_c (fun k hk => spr_e (f := MB 55) (g := MB 56) (W := MB 61) (r := r0) (b := b) hk)])) trivial (fun q i k _ _ _ => by rw [up_ne _ _ (show (55 : Nat) ≠ 56 by decide), up_ne _ _ (show (55 : Nat) ≠ 61 by decide)]) (fun k hk => by rw [up_at]; exact spr_e hk) (by rw [up_ne _ _ (show (55 : Nat) ≠ 56 by decide), up_ne _ _ (show (55 : Nat) ≠ 61 by decide)]; exact hz))
set_option maxHeartbeats 1000000 in
set_option maxRecDepth 20000 in
theorem a_markedAt (hJ : JJ σ) (a0 : Int32) : Ag mL_markedAt mX5_markedAt 8 1 6 [.ref 52, .int a0, .ref 66] [.ref 54, .int a0] σ TI AI D0 := by
  obtain ⟨n, MB, MI, mt, o, w, T, El, Lo, Hi, BL, BH, Od, Ls, hI, hz, rfl⟩ := JJ_open hJ
  have hn := cI_n hI
  have h1n := cI_1 hI
  have HS0 : ∀ τ, τ = px El Lo Hi BL BH Od Ls (nI n) (pm MB MI (nI n) mt (po o w T)) → HS n (rf (MB 55)) (MB 56) MB MI (nI n) mt o w T τ := fun τ h => ⟨El, Lo, Hi, BL, BH, Od, Ls, hI, h⟩
  have hm := fun τ0 => m_mka (MB := MB) (MI := MI) (mt := mt) (T := τ0) hn a0
  by_cases hf : ff (fun k => MB 56 k && decide (nI (cnt (MB 56) k) = a0)) n 0 = n
  · refine Ag_x (MI := MI) (mt := mt) (o := o) (w := w) (T := T) (k := 1) (by decide) (g_markedAt px_x _ (x_markedAt a0 hI) (fun v τ h => ?_) (fun E τ h => ?_)) hz (fun τ0 => hm_x (b := .int 0) (dm := 1) ?_ (by omega) ⟨_, rfl⟩)
    · have h2 := h.2
      rw [if_pos hf] at h2
      cases h2
    · have h2 := h.2
      rw [if_pos hf] at h2
      exact ⟨Sum.inr.inj h2, rfl, HS0 τ h.1⟩
    · have h3 := hm τ0
      rw [if_pos hf, if_pos hf] at h3
      exact h3
  · refine Ag_v (MI := MI) (mt := mt) (T := T) (n2 := n) (R' := rf (MB 55)) (mk' := MB 56) (o2 := va_up o 0 (nI (ff (fun k => MB 56 k && decide (nI (cnt (MB 56) k) = a0)) n 0)).toInt64) (w2 := w) (g_markedAt px_x _ (x_markedAt a0 hI) (fun v τ h => ?_) (fun E τ h => ?_)) (fun τ0 => hm_s (b := .int (nI (ff (fun k => MB 56 k && decide (nI (cnt (MB 56) k) = a0)) n 0))) (dm := 1) (MI2 := MI) ?_ (by omega) ⟨_, rfl⟩ (AI_i rfl) trivial hz)
    · have h2 := h.2
      rw [if_neg hf] at h2
      exact hv_i v τ ⟨h2, HS0 τ h.1⟩
    · have h2 := h.2
      rw [if_neg hf] at h2
      cases h2
    · have h3 := hm τ0
      rw [if_neg hf, if_neg hf] at h3
      exact h3
set_option maxHeartbeats 1000000 in
set_option maxRecDepth 20000 in
theorem a_meanRow (hJ : JJ σ) (a0 : Int32) : Ag mL_meanRow mX5_meanRow 8 1 6 [.ref 52, .int a0, .ref 67] [.ref 54, .int a0] σ TD A0 DD := by
  obtain ⟨n, MB, MI, mt, o, w, T, El, Lo, Hi, BL, BH, Od, Ls, hI, hz, rfl⟩ := JJ_open hJ
  have hn := cI_n hI
  have h1n := cI_1 hI
  have HS0 : ∀ τ, τ = px El Lo Hi BL BH Od Ls (nI n) (pm MB MI (nI n) mt (po o w T)) → HS n (rf (MB 55)) (MB 56) MB MI (nI n) mt o w T τ := fun τ h => ⟨El, Lo, Hi, BL, BH, Od, Ls, hI, h⟩
  cases c1 : isR a0
  · exact Ag_x (k := 1) (by decide) (g_meanRow px_x _ (x_meanRow_1 c1) (fun v τ h => by cases h.1) (fun E τ h => ⟨Sum.inr.inj h.1, rfl, HS0 τ h.2⟩)) hz (fun τ0 => hm_x (m_mean_x c1) (by omega) ⟨_, rfl⟩)
  · obtain ⟨r0, hr0, rfl⟩ := isR_of c1
    exact Ag_v (g_meanRow px_x _ (x_meanRow_v hr0 hI) hv_d (fun E τ h => by cases h.1)) (fun τ0 => hm_s (m_mean_v hr0 hn h1n) (by omega) ⟨_, rfl⟩ (trivial) (DD_i rfl (zf_cd (prs_lt hn _) (by omega) h1n)) hz)
set_option maxHeartbeats 1000000 in
set_option maxRecDepth 20000 in
theorem a_share (hJ : JJ σ) (a0 : Int32) : Ag mL_share mX5_share 8 1 6 [.ref 52, .int a0, .ref 67] [.ref 54, .int a0] σ TF A0 DF := by
  obtain ⟨n, MB, MI, mt, o, w, T, El, Lo, Hi, BL, BH, Od, Ls, hI, hz, rfl⟩ := JJ_open hJ
  have hn := cI_n hI
  have h1n := cI_1 hI
  have HS0 : ∀ τ, τ = px El Lo Hi BL BH Od Ls (nI n) (pm MB MI (nI n) mt (po o w T)) → HS n (rf (MB 55)) (MB 56) MB MI (nI n) mt o w T τ := fun τ h => ⟨El, Lo, Hi, BL, BH, Od, Ls, hI, h⟩
  cases c1 : isR a0
  · exact Ag_x (k := 1) (by decide) (g_share px_x _ (x_share_1 c1) (fun v τ h => by cases h.1) (fun E τ h => ⟨Sum.inr.inj h.1, rfl, HS0 τ h.2⟩)) hz (fun τ0 => hm_x (m_share_x c1) (by omega) ⟨_, rfl⟩)
  · obtain ⟨r0, hr0, rfl⟩ := isR_of c1
    have h2 : n * n ≤ 80 * 80 := Nat.mul_le_mul hn hn
    have h3 : 1 * 1 ≤ n * n := Nat.mul_le_mul h1n h1n
    exact Ag_v (g_share px_x _ (x_share_v hr0 hI) (hv_f (zf_f2d (prs_lt hn _) (by omega) (by omega))) (fun E τ h => by cases h.1)) (fun τ0 => hm_s (m_share_v hr0 hn h1n) (by omega) ⟨_, rfl⟩ (trivial) (DF_i rfl (zf_f2d (prs_lt hn _) (by omega) (by omega)) (zf_cf (prs_lt hn _) (by omega) (by omega))) hz)
end ZZAH
