section ZZAG
variable {σ : zz_St}
theorem isM_of {v : Int32} (h : isM v = true) : ∃ e, e ≤ 200 ∧ v = nI e := by
  unfold isM at h
  rw [Bool.and_eq_true, decide_eq_true_iff, decide_eq_true_iff, nn0] at h
  obtain ⟨j, hj, e⟩ := nI_of2 (n := 200) (M := 200) (by decide) h.1 h.2
  exact ⟨j, hj, e⟩
theorem isW_of {v : Int32} (h : isW v = true) : ∃ e, e < 2 ∧ v = nI e := by
  unfold isW at h
  rw [Bool.and_eq_true, decide_eq_true_iff, decide_eq_true_iff, nn0] at h
  obtain ⟨j, hj, e⟩ := nI_of2 (n := 1) (M := 1) (by decide) h.1 h.2
  exact ⟨j, by omega, e⟩
theorem isH_of {v : Int32} (h : isH v = true) : ∃ e, e < 6 ∧ v = nI e := by
  unfold isH at h
  rw [Bool.and_eq_true, decide_eq_true_iff, decide_eq_true_iff, nn0] at h
  obtain ⟨j, hj, e⟩ := nI_of2 (n := 5) (M := 5) (by decide) h.1 h.2
  exact ⟨j, by omega, e⟩
set_option maxHeartbeats 1000000 in
set_option maxRecDepth 20000 in
theorem a_begin (hJ : JJ σ) (a0 : Int32) : Ag mL_begin mX5_begin 8 1 6 [.ref 52, .int a0, .ref 66] [.ref 54, .int a0] σ TI AI D0 := by
  obtain ⟨n, MB, MI, mt, o, w, T, El, Lo, Hi, BL, BH, Od, Ls, hI, hz, rfl⟩ := JJ_open hJ
  have hn := cI_n hI
  have h1n := cI_1 hI
  have HS0 : ∀ τ, τ = px El Lo Hi BL BH Od Ls (nI n) (pm MB MI (nI n) mt (po o w T)) → HS n (rf (MB 55)) (MB 56) MB MI (nI n) mt o w T τ := fun τ h => ⟨El, Lo, Hi, BL, BH, Od, Ls, hI, h⟩
  cases c1 : isB a0
  · exact Ag_x (k := 1) (by decide) (g_begin px_x _ (x_begin_x c1) (fun v τ h => by cases h.1) (fun E τ h => ⟨Sum.inr.inj h.1, rfl, HS0 τ h.2⟩)) hz (fun τ0 => hm_x (m_begin_x c1) (by omega) ⟨_, rfl⟩)
  · obtain ⟨e0, he0, hf0, rfl⟩ := isB_of c1
    refine Ag_v (g_begin px_x _ (x_begin_v he0 hf0) hv_i (fun E τ h => by cases h.1)) (fun τ0 => hm_v (m_begin_v he0 hf0) (by omega) ⟨_, rfl⟩ (AI_i rfl) trivial (fun q i k hq hi hk => ?_) (fun k hk => ?_) ?_)
    · rw [up_ne _ _ (show (55 : Nat) ≠ 56 by decide), up_at]
      exact (if_pos (by omega)).symm
    · rw [up_at]
      exact (if_pos (by omega)).symm
    · intro q i k hq hi hk _
      rw [up_ne _ _ (show (55 : Nat) ≠ 56 by decide), up_at]
      exact if_pos (by omega)
set_option maxHeartbeats 1000000 in
set_option maxRecDepth 20000 in
theorem a_set (hJ : JJ σ) (a0 : Int32) (a1 : Int32) (a2 : Int32) (b : Bool) : Ag mL_set mX5_set 8 1 6 [.ref 52, .int a0, .int a1, .int a2, .int (zB b), .ref 66] [.ref 54, .int a0, .int a1, .int a2, .int (zB b)] σ TB AB D0 := by
  obtain ⟨n, MB, MI, mt, o, w, T, El, Lo, Hi, BL, BH, Od, Ls, hI, hz, rfl⟩ := JJ_open hJ
  have hn := cI_n hI
  have h1n := cI_1 hI
  have HS0 : ∀ τ, τ = px El Lo Hi BL BH Od Ls (nI n) (pm MB MI (nI n) mt (po o w T)) → HS n (rf (MB 55)) (MB 56) MB MI (nI n) mt o w T τ := fun τ h => ⟨El, Lo, Hi, BL, BH, Od, Ls, hI, h⟩
  cases c1 : isR a0
  · exact Ag_x (k := 1) (by decide) (g_set px_x _ _ _ _ (x_set_1 c1 _ _ _) (fun v τ h => by cases h.1) (fun E τ h => ⟨Sum.inr.inj h.1, rfl, HS0 τ h.2⟩)) hz (fun τ0 => hm_x (m_set_x (by rw [c1]; rfl) b) (by omega) ⟨_, rfl⟩)
  · obtain ⟨r0, hr0, rfl⟩ := isR_of c1
    cases c2 : isE n a1
    · exact Ag_x (k := 1) (by decide) (g_set px_x _ _ _ _ (x_set_2 hr0 hn c2 _ _) (fun v τ h => by cases h.1) (fun E τ h => ⟨Sum.inr.inj h.1, rfl, HS0 τ h.2⟩)) hz (fun τ0 => hm_x (m_set_x (by rw [c1, c2]; rfl) b) (by omega) ⟨_, rfl⟩)
    · obtain ⟨j1, hj1, rfl⟩ := isE_of h1n hn c2
      cases c3 : isE n a2
      · exact Ag_x (k := 1) (by decide) (g_set px_x _ _ _ _ (x_set_3 hr0 hj1 hn c3 _) (fun v τ h => by cases h.1) (fun E τ h => ⟨Sum.inr.inj h.1, rfl, HS0 τ h.2⟩)) hz (fun τ0 => hm_x (m_set_x (by rw [c1, c2, c3]; rfl) b) (by omega) ⟨_, rfl⟩)
      · obtain ⟨j2, hj2, rfl⟩ := isE_of h1n hn c3
        exact Ag_v (g_set px_x _ _ _ _ (x_set_v hr0 hj1 hj2 b hI) hv_b (fun E τ h => by cases h.1)) (fun τ0 => hm_v (m_set_v hr0 hj1 hj2 hn b) (by omega) ⟨_, rfl⟩ (AB_i rfl) trivial (fun q i k hq hi hk => by rw [up_at]; exact set_rf hr0 hj1 hj2 hn b hq hi hk) (fun _ _ => by rw [up_ne _ _ (show (56 : Nat) ≠ 55 by decide)]) (by rw [up_at]; exact set_zo hz hj1 hj2 hn b))
set_option maxHeartbeats 1000000 in
set_option maxRecDepth 20000 in
theorem a_setRange (hJ : JJ σ) (a0 : Int32) (a1 : Int32) (a2 : Int32) (a3 : Int32) (b : Bool) : Ag mL_setRange mX5_setRange 8 1 6 [.ref 52, .int a0, .int a1, .int a2, .int a3, .int (zB b), .ref 66] [.ref 54, .int a0, .int a1, .int a2, .int a3, .int (zB b)] σ TI AI D0 := by
  obtain ⟨n, MB, MI, mt, o, w, T, El, Lo, Hi, BL, BH, Od, Ls, hI, hz, rfl⟩ := JJ_open hJ
  have hn := cI_n hI
  have h1n := cI_1 hI
  have HS0 : ∀ τ, τ = px El Lo Hi BL BH Od Ls (nI n) (pm MB MI (nI n) mt (po o w T)) → HS n (rf (MB 55)) (MB 56) MB MI (nI n) mt o w T τ := fun τ h => ⟨El, Lo, Hi, BL, BH, Od, Ls, hI, h⟩
  cases c1 : isR a0
  · exact Ag_x (k := 1) (by decide) (g_setRange px_x _ _ _ _ _ (x_setRange_1 c1 _ _ _ _) (fun v τ h => by cases h.1) (fun E τ h => ⟨Sum.inr.inj h.1, rfl, HS0 τ h.2⟩)) hz (fun τ0 => hm_x (m_setRange_x (by rw [c1]; rfl) b) (by omega) ⟨_, rfl⟩)
  · obtain ⟨r0, hr0, rfl⟩ := isR_of c1
    cases c2 : isE n a1
    · exact Ag_x (k := 1) (by decide) (g_setRange px_x _ _ _ _ _ (x_setRange_2 hr0 hn c2 _ _ _) (fun v τ h => by cases h.1) (fun E τ h => ⟨Sum.inr.inj h.1, rfl, HS0 τ h.2⟩)) hz (fun τ0 => hm_x (m_setRange_x (by rw [c1, c2]; rfl) b) (by omega) ⟨_, rfl⟩)
    · obtain ⟨j1, hj1, rfl⟩ := isE_of h1n hn c2
      cases c3 : isG n a2 a3
      · exact Ag_x (k := 1) (by decide) (g_setRange px_x _ _ _ _ _ (x_setRange_3 hr0 hj1 hn c3 _) (fun v τ h => by cases h.1) (fun E τ h => ⟨Sum.inr.inj h.1, rfl, HS0 τ h.2⟩)) hz (fun τ0 => hm_x (m_setRange_x (by rw [c1, c2, c3]; rfl) b) (by omega) ⟨_, rfl⟩)
      · obtain ⟨x2, y2, hx2, hy2, rfl, rfl⟩ := isG_of hn c3
        have hS : ∀ k, k < n → ptS (rf (MB 55) r0 j1) x2 y2 b k = if x2 ≤ k ∧ k < y2 then (fun _ => b) (6400 * r0 + 80 * j1 + k) else MB 55 (6400 * r0 + 80 * j1 + k) := fun k _ => rfl
        exact Ag_v (g_setRange px_x _ _ _ _ _ (x_setRange_v hr0 hj1 hx2 hy2 b hI) hv_i (fun E τ h => by cases h.1)) (fun τ0 => hm_v (m_setRange_v hr0 hj1 hn hx2 hy2 b) (by omega) ⟨_, rfl⟩ (AI_i (by rw [rng_cnt (f := MB 55) (g := (fun _ => b)) (r := r0) (j := j1) hS])) trivial (fun q i k hq hi hk => by rw [up_at]; exact rng_row (g := (fun _ => b)) hr0 hj1 hn hy2 hS hq hi hk) (fun _ _ => by rw [up_ne _ _ (show (56 : Nat) ≠ 55 by decide)]) (by rw [up_at]; exact rng_zo hz hr0 hj1 hn hy2))
set_option maxHeartbeats 1000000 in
set_option maxRecDepth 20000 in
theorem a_flipRange (hJ : JJ σ) (a0 : Int32) (a1 : Int32) (a2 : Int32) (a3 : Int32) : Ag mL_flipRange mX5_flipRange 8 1 6 [.ref 52, .int a0, .int a1, .int a2, .int a3, .ref 66] [.ref 54, .int a0, .int a1, .int a2, .int a3] σ TI AI D0 := by
  obtain ⟨n, MB, MI, mt, o, w, T, El, Lo, Hi, BL, BH, Od, Ls, hI, hz, rfl⟩ := JJ_open hJ
  have hn := cI_n hI
  have h1n := cI_1 hI
  have HS0 : ∀ τ, τ = px El Lo Hi BL BH Od Ls (nI n) (pm MB MI (nI n) mt (po o w T)) → HS n (rf (MB 55)) (MB 56) MB MI (nI n) mt o w T τ := fun τ h => ⟨El, Lo, Hi, BL, BH, Od, Ls, hI, h⟩
  cases c1 : isR a0
  · exact Ag_x (k := 1) (by decide) (g_flipRange px_x _ _ _ _ (x_flipRange_1 c1 _ _ _) (fun v τ h => by cases h.1) (fun E τ h => ⟨Sum.inr.inj h.1, rfl, HS0 τ h.2⟩)) hz (fun τ0 => hm_x (m_flipRange_x (by rw [c1]; rfl)) (by omega) ⟨_, rfl⟩)
  · obtain ⟨r0, hr0, rfl⟩ := isR_of c1
    cases c2 : isE n a1
    · exact Ag_x (k := 1) (by decide) (g_flipRange px_x _ _ _ _ (x_flipRange_2 hr0 hn c2 _ _) (fun v τ h => by cases h.1) (fun E τ h => ⟨Sum.inr.inj h.1, rfl, HS0 τ h.2⟩)) hz (fun τ0 => hm_x (m_flipRange_x (by rw [c1, c2]; rfl)) (by omega) ⟨_, rfl⟩)
    · obtain ⟨j1, hj1, rfl⟩ := isE_of h1n hn c2
      cases c3 : isG n a2 a3
      · exact Ag_x (k := 1) (by decide) (g_flipRange px_x _ _ _ _ (x_flipRange_3 hr0 hj1 hn c3) (fun v τ h => by cases h.1) (fun E τ h => ⟨Sum.inr.inj h.1, rfl, HS0 τ h.2⟩)) hz (fun τ0 => hm_x (m_flipRange_x (by rw [c1, c2, c3]; rfl)) (by omega) ⟨_, rfl⟩)
      · obtain ⟨x2, y2, hx2, hy2, rfl, rfl⟩ := isG_of hn c3
        have hS : ∀ k, k < n → flS (rf (MB 55) r0 j1) x2 y2 k = if x2 ≤ k ∧ k < y2 then (fun x => !(MB 55 x)) (6400 * r0 + 80 * j1 + k) else MB 55 (6400 * r0 + 80 * j1 + k) := fun k _ => rfl
        exact Ag_v (g_flipRange px_x _ _ _ _ (x_flipRange_v hr0 hj1 hx2 hy2 hI) hv_i (fun E τ h => by cases h.1)) (fun τ0 => hm_v (m_flipRange_v hr0 hj1 hn hx2 hy2) (by omega) ⟨_, rfl⟩ (AI_i (by rw [rng_cnt (f := MB 55) (g := (fun x => !(MB 55 x))) (r := r0) (j := j1) hS])) trivial (fun q i k hq hi hk => by rw [up_at]; exact rng_row (g := (fun x => !(MB 55 x))) hr0 hj1 hn hy2 hS hq hi hk) (fun _ _ => by rw [up_ne _ _ (show (56 : Nat) ≠ 55 by decide)]) (by rw [up_at]; exact rng_zo hz hr0 hj1 hn hy2))
set_option maxHeartbeats 1000000 in
set_option maxRecDepth 20000 in
theorem a_setRow (hJ : JJ σ) (a0 : Int32) (a1 : Int32) (a2 : Int64) : Ag mL_setRow mX5_setRow 8 1 6 [.ref 52, .int a0, .int a1, .long a2, .ref 66] [.ref 54, .int a0, .int a1, .long a2] σ TI AI D0 := by
  obtain ⟨n, MB, MI, mt, o, w, T, El, Lo, Hi, BL, BH, Od, Ls, hI, hz, rfl⟩ := JJ_open hJ
  have hn := cI_n hI
  have h1n := cI_1 hI
  have HS0 : ∀ τ, τ = px El Lo Hi BL BH Od Ls (nI n) (pm MB MI (nI n) mt (po o w T)) → HS n (rf (MB 55)) (MB 56) MB MI (nI n) mt o w T τ := fun τ h => ⟨El, Lo, Hi, BL, BH, Od, Ls, hI, h⟩
  cases c1 : isR a0
  · exact Ag_x (k := 1) (by decide) (g_setRow px_x _ _ _ (x_setRow_1 c1 _ _) (fun v τ h => by cases h.1) (fun E τ h => ⟨Sum.inr.inj h.1, rfl, HS0 τ h.2⟩)) hz (fun τ0 => hm_x (m_setRow_x (by rw [c1]; rfl) _) (by omega) ⟨_, rfl⟩)
  · obtain ⟨r0, hr0, rfl⟩ := isR_of c1
    cases c2 : isE n a1
    · exact Ag_x (k := 1) (by decide) (g_setRow px_x _ _ _ (x_setRow_2 hr0 hn c2 _) (fun v τ h => by cases h.1) (fun E τ h => ⟨Sum.inr.inj h.1, rfl, HS0 τ h.2⟩)) hz (fun τ0 => hm_x (m_setRow_x (by rw [c1, c2]; rfl) _) (by omega) ⟨_, rfl⟩)
    · obtain ⟨j1, hj1, rfl⟩ := isE_of h1n hn c2
      exact Ag_v (g_setRow px_x _ _ _ (x_setRow_v hr0 hj1 a2 hI) hv_i (fun E τ h => by cases h.1)) (fun τ0 => hm_v (m_setRow_v hr0 hj1 hn a2) (by omega) ⟨_, rfl⟩ (AI_i (by rw [rng_cnt (f := MB 55) (g := fun x => lbit a2 (x - (6400 * r0 + 80 * j1))) (r := r0) (j := j1) (a := 0) (e := n) (fun k hk => by rw [if_pos ⟨Nat.zero_le k, hk⟩, Nat.add_sub_cancel_left])])) trivial (fun q i k hq hi hk => by rw [up_at]; exact rng_row (g := fun x => lbit a2 (x - (6400 * r0 + 80 * j1))) (a := 0) hr0 hj1 hn (Nat.le_refl n) (fun k hk => by rw [if_pos ⟨Nat.zero_le k, hk⟩, Nat.add_sub_cancel_left]) hq hi hk) (fun _ _ => by rw [up_ne _ _ (show (56 : Nat) ≠ 55 by decide)]) (by rw [up_at]; exact rng_zo hz hr0 hj1 hn (Nat.le_refl n)))
set_option maxHeartbeats 1000000 in
set_option maxRecDepth 20000 in
theorem a_chain (hJ : JJ σ) (a0 : Int32) : Ag mL_chain mX5_chain 8 1 6 [.ref 52, .int a0, .ref 66] [.ref 54, .int a0] σ TI AI D0 := by
  obtain ⟨n, MB, MI, mt, o, w, T, El, Lo, Hi, BL, BH, Od, Ls, hI, hz, rfl⟩ := JJ_open hJ
  have hn := cI_n hI
  have h1n := cI_1 hI
  have HS0 : ∀ τ, τ = px El Lo Hi BL BH Od Ls (nI n) (pm MB MI (nI n) mt (po o w T)) → HS n (rf (MB 55)) (MB 56) MB MI (nI n) mt o w T τ := fun τ h => ⟨El, Lo, Hi, BL, BH, Od, Ls, hI, h⟩
  cases c1 : isR a0
  · exact Ag_x (k := 1) (by decide) (g_chain px_x _ (x_chain_1 c1) (fun v τ h => by cases h.1) (fun E τ h => ⟨Sum.inr.inj h.1, rfl, HS0 τ h.2⟩)) hz (fun τ0 => hm_x (m_chain_x c1) (by omega) ⟨_, rfl⟩)
  · obtain ⟨r0, hr0, rfl⟩ := isR_of c1
    exact Ag_v (g_chain px_x _ (x_chain_v hr0 (MB 55) hI) hv_i (fun E τ h => by cases h.1)) (fun τ0 => hm_v (m_chain_v hr0 hn h1n) (by omega) ⟨_, rfl⟩ (AI_i rfl) trivial (fun q i k hq hi hk => by rw [up_at]; exact chn_up hn hq hi hk) (fun _ _ => by rw [up_ne _ _ (show (56 : Nat) ≠ 55 by decide)]) (by rw [up_at]; exact chn_zo hz hn))
set_option maxHeartbeats 1000000 in
set_option maxRecDepth 20000 in
theorem a_draw (hJ : JJ σ) (a0 : Int32) (a1 : Int32) (a2 : Int32) : Ag mL_draw mX5_draw 8 1 6 [.ref 52, .int a0, .int a1, .int a2, .ref 66] [.ref 54, .int a0, .int a1, .int a2] σ TI AI D0 := by
  obtain ⟨n, MB, MI, mt, o, w, T, El, Lo, Hi, BL, BH, Od, Ls, hI, hz, rfl⟩ := JJ_open hJ
  have hn := cI_n hI
  have h1n := cI_1 hI
  have HS0 : ∀ τ, τ = px El Lo Hi BL BH Od Ls (nI n) (pm MB MI (nI n) mt (po o w T)) → HS n (rf (MB 55)) (MB 56) MB MI (nI n) mt o w T τ := fun τ h => ⟨El, Lo, Hi, BL, BH, Od, Ls, hI, h⟩
  cases c1 : isR a0
  · exact Ag_x (k := 1) (by decide) (g_draw px_x _ _ _ (x_draw_1 c1 _ _) (fun v τ h => by cases h.1) (fun E τ h => Or.inl ⟨Sum.inr.inj h.1, rfl, HS0 τ h.2⟩)) hz (fun τ0 => hm_x (m_draw_x c1 _ _) (by omega) ⟨_, rfl⟩)
  · obtain ⟨r0, hr0, rfl⟩ := isR_of c1
    cases c2 : isM a2
    · exact Ag_x (k := 2) (by decide) (g_draw px_x _ _ _ (x_draw_2 hr0 c2 _) (fun v τ h => by cases h.1) (fun E τ h => Or.inr ⟨Sum.inr.inj h.1, rfl, HS0 τ h.2⟩)) hz (fun τ0 => hm_x (m_draw_y hr0 c2 _) (by omega) ⟨_, rfl⟩)
    · obtain ⟨e1, he1, rfl⟩ := isM_of c2
      exact Ag_v (g_draw px_x _ _ _ (x_draw_v hr0 (MB 55) a1 he1 hI) hv_i (fun E τ h => by cases h.1)) (fun τ0 => hm_v (m_draw_v hr0 hn h1n a1 he1) (by omega) ⟨_, rfl⟩ (AI_i rfl) trivial (fun q i k hq hi hk => by rw [up_at]; exact drw_up hn h1n a1 e1 hq hi hk) (fun _ _ => by rw [up_ne _ _ (show (56 : Nat) ≠ 55 by decide)]) (by rw [up_at]; exact drw_zo hz hn h1n a1 e1))
set_option maxHeartbeats 1000000 in
set_option maxRecDepth 20000 in
theorem a_copy (hJ : JJ σ) (a0 : Int32) (a1 : Int32) : Ag mL_copy mX5_copy 8 1 6 [.ref 52, .int a0, .int a1, .ref 66] [.ref 54, .int a0, .int a1] σ TI AI D0 := by
  obtain ⟨n, MB, MI, mt, o, w, T, El, Lo, Hi, BL, BH, Od, Ls, hI, hz, rfl⟩ := JJ_open hJ
  have hn := cI_n hI
  have h1n := cI_1 hI
  have HS0 : ∀ τ, τ = px El Lo Hi BL BH Od Ls (nI n) (pm MB MI (nI n) mt (po o w T)) → HS n (rf (MB 55)) (MB 56) MB MI (nI n) mt o w T τ := fun τ h => ⟨El, Lo, Hi, BL, BH, Od, Ls, hI, h⟩
  cases c1 : isR a0
  · exact Ag_x (k := 1) (by decide) (g_copy px_x _ _ (x_copy_1 c1 _) (fun v τ h => by cases h.1) (fun E τ h => ⟨Sum.inr.inj h.1, rfl, HS0 τ h.2⟩)) hz (fun τ0 => hm_x (m_copy_x (by rw [c1]; rfl)) (by omega) ⟨_, rfl⟩)
  · obtain ⟨r0, hr0, rfl⟩ := isR_of c1
    cases c2 : isR a1
    · exact Ag_x (k := 1) (by decide) (g_copy px_x _ _ (x_copy_2 hr0 c2) (fun v τ h => by cases h.1) (fun E τ h => ⟨Sum.inr.inj h.1, rfl, HS0 τ h.2⟩)) hz (fun τ0 => hm_x (m_copy_x (by rw [c1, c2]; rfl)) (by omega) ⟨_, rfl⟩)
    · obtain ⟨r1, hr1, rfl⟩ := isR_of c2
      have e9 : ∀ i k, i < n → k < n → rf (MB 55) r0 i k = rf (rng (MB 55) (6400 * r1) 0 6400 (fun x => MB 55 (6400 * r0 + (x - 6400 * r1)))) r1 i k := fun i k hi hk => (cp_1 (f := MB 55) (G := MB 55) (r := r0) hr1 (show i < 80 by omega) (show k < 80 by omega)).symm
      have z9 : zo n (rng (MB 55) (6400 * r1) 0 6400 (fun x => MB 55 (6400 * r0 + (x - 6400 * r1)))) := cp_zo hr1 hz (fun i k hi hk h => (cp_1 (f := MB 55) (G := MB 55) (r := r0) hr1 hi hk).trans (hz r0 i k hr0 hi hk h))
      exact Ag_v (g_copy px_x _ _ (x_copy_v hr0 hr1 hI) hv_i (fun E τ h => by cases h.1)) (fun τ0 => hm_v (m_copy_v hr0 hr1 hn) (by omega) ⟨_, rfl⟩ (AI_i (by rw [cp_sm (w := r1) e9])) trivial (fun q i k hq hi hk => by rw [up_at]; exact cp_up hr1 hn e9 hq hi hk) (fun _ _ => by rw [up_ne _ _ (show (56 : Nat) ≠ 55 by decide)]) (by rw [up_at]; exact z9))
set_option maxHeartbeats 1000000 in
set_option maxRecDepth 20000 in
theorem a_combine (hJ : JJ σ) (a0 : Int32) (a1 : Int32) (a2 : Int32) : Ag mL_combine mX5_combine 8 1 6 [.ref 52, .int a0, .int a1, .int a2, .ref 66] [.ref 54, .int a0, .int a1, .int a2] σ TI AI D0 := by
  obtain ⟨n, MB, MI, mt, o, w, T, El, Lo, Hi, BL, BH, Od, Ls, hI, hz, rfl⟩ := JJ_open hJ
  have hn := cI_n hI
  have h1n := cI_1 hI
  have HS0 : ∀ τ, τ = px El Lo Hi BL BH Od Ls (nI n) (pm MB MI (nI n) mt (po o w T)) → HS n (rf (MB 55)) (MB 56) MB MI (nI n) mt o w T τ := fun τ h => ⟨El, Lo, Hi, BL, BH, Od, Ls, hI, h⟩
  cases c1 : isR a0
  · exact Ag_x (k := 1) (by decide) (g_combine px_x _ _ _ (x_combine_1 c1 _ _) (fun v τ h => by cases h.1) (fun E τ h => Or.inl ⟨Sum.inr.inj h.1, rfl, HS0 τ h.2⟩)) hz (fun τ0 => hm_x (m_combine_x (by rw [c1]; rfl) _) (by omega) ⟨_, rfl⟩)
  · obtain ⟨r0, hr0, rfl⟩ := isR_of c1
    cases c2 : isR a1
    · exact Ag_x (k := 1) (by decide) (g_combine px_x _ _ _ (x_combine_2 hr0 c2 _) (fun v τ h => by cases h.1) (fun E τ h => Or.inl ⟨Sum.inr.inj h.1, rfl, HS0 τ h.2⟩)) hz (fun τ0 => hm_x (m_combine_x (by rw [c1, c2]; rfl) _) (by omega) ⟨_, rfl⟩)
    · obtain ⟨r1, hr1, rfl⟩ := isR_of c2
      cases c3 : isR a2
      · exact Ag_x (k := 2) (by decide) (g_combine px_x _ _ _ (x_combine_3 hr0 hr1 c3) (fun v τ h => by cases h.1) (fun E τ h => Or.inr ⟨Sum.inr.inj h.1, rfl, HS0 τ h.2⟩)) hz (fun τ0 => hm_x (m_combine_y hr0 hr1 c3) (by omega) ⟨_, rfl⟩)
      · obtain ⟨e2, he2, rfl⟩ := isR_of c3
        have e9 : ∀ i k, i < n → k < n → (fun i k => cmb e2 (rf (MB 55) r0 i k) (rf (MB 55) r1 i k)) i k = rf (rng (MB 55) (6400 * r0) 0 6400 (fun x => cmb e2 (MB 55 x) (MB 55 (6400 * r1 + (x - 6400 * r0))))) r0 i k := fun i k hi hk => (cp_2 (f := MB 55) (C := cmb e2) (r := r1) hr0 (show i < 80 by omega) (show k < 80 by omega)).symm
        have z9 : zo n (rng (MB 55) (6400 * r0) 0 6400 (fun x => cmb e2 (MB 55 x) (MB 55 (6400 * r1 + (x - 6400 * r0))))) := cp_zo hr0 hz (fun i k hi hk h => (cp_2 (f := MB 55) (C := cmb e2) (r := r1) hr0 hi hk).trans (by
          show cmb e2 (MB 55 (6400 * r0 + 80 * i + k)) (MB 55 (6400 * r1 + 80 * i + k)) = false
          rw [hz r0 i k hr0 hi hk h, hz r1 i k hr1 hi hk h]
          exact cmb_ff e2 he2))
        exact Ag_v (g_combine px_x _ _ _ (x_combine_v hr0 hr1 he2 hI) hv_i (fun E τ h => by cases h.1)) (fun τ0 => hm_v (m_combine_v hr0 hr1 hn he2) (by omega) ⟨_, rfl⟩ (AI_i (by rw [cp_sm (w := r0) e9])) trivial (fun q i k hq hi hk => by rw [up_at]; exact cp_up hr0 hn e9 hq hi hk) (fun _ _ => by rw [up_ne _ _ (show (56 : Nat) ≠ 55 by decide)]) (by rw [up_at]; exact z9))
set_option maxHeartbeats 1000000 in
set_option maxRecDepth 20000 in
theorem a_compose (hJ : JJ σ) (a0 : Int32) (a1 : Int32) (a2 : Int32) : Ag mL_compose mX5_compose 8 1 6 [.ref 52, .int a0, .int a1, .int a2, .ref 66] [.ref 54, .int a0, .int a1, .int a2] σ TI AI D0 := by
  obtain ⟨n, MB, MI, mt, o, w, T, El, Lo, Hi, BL, BH, Od, Ls, hI, hz, rfl⟩ := JJ_open hJ
  have hn := cI_n hI
  have h1n := cI_1 hI
  have HS0 : ∀ τ, τ = px El Lo Hi BL BH Od Ls (nI n) (pm MB MI (nI n) mt (po o w T)) → HS n (rf (MB 55)) (MB 56) MB MI (nI n) mt o w T τ := fun τ h => ⟨El, Lo, Hi, BL, BH, Od, Ls, hI, h⟩
  cases c1 : isR a0
  · exact Ag_x (k := 1) (by decide) (g_compose px_x _ _ _ (x_compose_1 c1 _ _) (fun v τ h => by cases h.1) (fun E τ h => ⟨Sum.inr.inj h.1, rfl, HS0 τ h.2⟩)) hz (fun τ0 => hm_x (m_compose_x (by rw [c1]; rfl)) (by omega) ⟨_, rfl⟩)
  · obtain ⟨r0, hr0, rfl⟩ := isR_of c1
    cases c2 : isR a1
    · exact Ag_x (k := 1) (by decide) (g_compose px_x _ _ _ (x_compose_2 hr0 c2 _) (fun v τ h => by cases h.1) (fun E τ h => ⟨Sum.inr.inj h.1, rfl, HS0 τ h.2⟩)) hz (fun τ0 => hm_x (m_compose_x (by rw [c1, c2]; rfl)) (by omega) ⟨_, rfl⟩)
    · obtain ⟨r1, hr1, rfl⟩ := isR_of c2
      cases c3 : isR a2
      · exact Ag_x (k := 1) (by decide) (g_compose px_x _ _ _ (x_compose_3 hr0 hr1 c3) (fun v τ h => by cases h.1) (fun E τ h => ⟨Sum.inr.inj h.1, rfl, HS0 τ h.2⟩)) hz (fun τ0 => hm_x (m_compose_x (by rw [c1, c2, c3]; rfl)) (by omega) ⟨_, rfl⟩)
      · obtain ⟨r2, hr2, rfl⟩ := isR_of c3
        have e9 : ∀ i k, i < n → k < n → (fun i k => anb (fun j => rf (MB 55) r0 i j && rf (MB 55) r1 j k) n) i k = (fun a0 b0 => gs (MB 57) 0 n n 0 (cmG (MB 55) r0 r1 n) (80 * a0 + b0)) i k := fun i k hi hk => (gs0_get (f := MB 57) (G := cmG (MB 55) r0 r1 n) hn hi hk).symm
        exact Ag_v (g_compose px_x _ _ _ (x_compose_v hr0 hr1 hr2 hI) hv_i (fun E τ h => by cases h.1)) (fun τ0 => hm_v (m_compose_v hr0 hr1 hr2 hn) (by omega) ⟨_, rfl⟩ (AI_i (by rw [gs_prs (f := MB 55) (r := r2) hn e9])) trivial (fun q i k hq hi hk => by rw [up_at]; exact gs_up4 hn e9 hq hi hk) (fun _ _ => by rw [up_ne _ _ (show (56 : Nat) ≠ 55 by decide), up_ne _ _ (show (56 : Nat) ≠ 57 by decide)]) (by rw [up_at]; exact gs_zo hz hn))
set_option maxHeartbeats 1000000 in
set_option maxRecDepth 20000 in
theorem a_turn (hJ : JJ σ) (a0 : Int32) : Ag mL_turn mX5_turn 8 1 6 [.ref 52, .int a0, .ref 66] [.ref 54, .int a0] σ TI AI D0 := by
  obtain ⟨n, MB, MI, mt, o, w, T, El, Lo, Hi, BL, BH, Od, Ls, hI, hz, rfl⟩ := JJ_open hJ
  have hn := cI_n hI
  have h1n := cI_1 hI
  have HS0 : ∀ τ, τ = px El Lo Hi BL BH Od Ls (nI n) (pm MB MI (nI n) mt (po o w T)) → HS n (rf (MB 55)) (MB 56) MB MI (nI n) mt o w T τ := fun τ h => ⟨El, Lo, Hi, BL, BH, Od, Ls, hI, h⟩
  cases c1 : isR a0
  · exact Ag_x (k := 1) (by decide) (g_turn px_x _ (x_turn_1 c1) (fun v τ h => by cases h.1) (fun E τ h => ⟨Sum.inr.inj h.1, rfl, HS0 τ h.2⟩)) hz (fun τ0 => hm_x (m_turn_x c1) (by omega) ⟨_, rfl⟩)
  · obtain ⟨r0, hr0, rfl⟩ := isR_of c1
    have e9 : ∀ i k, i < n → k < n → (fun i k => rf (MB 55) r0 k i) i k = (fun a0 b0 => gs (MB 57) 0 n n 0 (fun a b => MB 55 (6400 * r0 + 80 * b + a)) (80 * a0 + b0)) i k := fun i k hi hk => (gs0_get (f := MB 57) (G := fun a b => MB 55 (6400 * r0 + 80 * b + a)) hn hi hk).symm
    exact Ag_v (g_turn px_x _ (x_turn_v hr0 hI) hv_i (fun E τ h => by cases h.1)) (fun τ0 => hm_v (m_turn_v hr0 hn) (by omega) ⟨_, rfl⟩ (AI_i (by rw [gs_prs (f := MB 55) (r := r0) hn e9])) trivial (fun q i k hq hi hk => by rw [up_at]; exact gs_up4 hn e9 hq hi hk) (fun _ _ => by rw [up_ne _ _ (show (56 : Nat) ≠ 55 by decide), up_ne _ _ (show (56 : Nat) ≠ 57 by decide)]) (by rw [up_at]; exact gs_zo hz hn))
set_option maxHeartbeats 1000000 in
set_option maxRecDepth 20000 in
theorem a_oppose (hJ : JJ σ) (a0 : Int32) : Ag mL_oppose mX5_oppose 8 1 6 [.ref 52, .int a0, .ref 66] [.ref 54, .int a0] σ TI AI D0 := by
  obtain ⟨n, MB, MI, mt, o, w, T, El, Lo, Hi, BL, BH, Od, Ls, hI, hz, rfl⟩ := JJ_open hJ
  have hn := cI_n hI
  have h1n := cI_1 hI
  have HS0 : ∀ τ, τ = px El Lo Hi BL BH Od Ls (nI n) (pm MB MI (nI n) mt (po o w T)) → HS n (rf (MB 55)) (MB 56) MB MI (nI n) mt o w T τ := fun τ h => ⟨El, Lo, Hi, BL, BH, Od, Ls, hI, h⟩
  cases c1 : isR a0
  · exact Ag_x (k := 1) (by decide) (g_oppose px_x _ (x_oppose_1 c1) (fun v τ h => by cases h.1) (fun E τ h => ⟨Sum.inr.inj h.1, rfl, HS0 τ h.2⟩)) hz (fun τ0 => hm_x (m_oppose_x c1) (by omega) ⟨_, rfl⟩)
  · obtain ⟨r0, hr0, rfl⟩ := isR_of c1
    have e9 : ∀ i k, i < n → k < n → (fun i k => !(rf (MB 55) r0 i k)) i k = (fun a b => !(MB 55 (6400 * r0 + 80 * a + b))) i k := fun i k hi hk => rfl
    exact Ag_v (g_oppose px_x _ (x_oppose_v hr0 hI) hv_i (fun E τ h => by cases h.1)) (fun τ0 => hm_v (m_oppose_v hr0 hn) (by omega) ⟨_, rfl⟩ (AI_i (by rw [gs_prs (f := MB 55) (r := r0) hn e9])) trivial (fun q i k hq hi hk => by rw [up_at]; exact gs_up4 hn e9 hq hi hk) (fun _ _ => by rw [up_ne _ _ (show (56 : Nat) ≠ 55 by decide)]) (by rw [up_at]; exact gs_zo hz hn))
set_option maxHeartbeats 1000000 in
set_option maxRecDepth 20000 in
theorem a_close (hJ : JJ σ) (a0 : Int32) (b : Bool) : Ag mL_close mX5_close 8 1 6 [.ref 52, .int a0, .int (zB b), .ref 66] [.ref 54, .int a0, .int (zB b)] σ TI AI D0 := by
  obtain ⟨n, MB, MI, mt, o, w, T, El, Lo, Hi, BL, BH, Od, Ls, hI, hz, rfl⟩ := JJ_open hJ
  have hn := cI_n hI
  have h1n := cI_1 hI
  have HS0 : ∀ τ, τ = px El Lo Hi BL BH Od Ls (nI n) (pm MB MI (nI n) mt (po o w T)) → HS n (rf (MB 55)) (MB 56) MB MI (nI n) mt o w T τ := fun τ h => ⟨El, Lo, Hi, BL, BH, Od, Ls, hI, h⟩
  cases c1 : isR a0
  · exact Ag_x (k := 1) (by decide) (g_close px_x _ _ (x_close_1 c1 _) (fun v τ h => by cases h.1) (fun E τ h => ⟨Sum.inr.inj h.1, rfl, HS0 τ h.2⟩)) hz (fun τ0 => hm_x (m_close_x c1 b) (by omega) ⟨_, rfl⟩)
  · obtain ⟨r0, hr0, rfl⟩ := isR_of c1
    have e9 : ∀ i k, i < n → k < n → (fun i k => rchB (rf (MB 55) r0) n i k || (b && decide (i = k))) i k = ownG (rchB (rl MB r0) n) b n i k := fun i k hi hk => by
      show _ = (_ || (b && (decide (i = k) && decide (i < n))))
      rw [decide_eq_true hi, Bool.and_true]
    exact Ag_v (g_close px_x _ _ (x_close_v hr0 b hI) hv_i (fun E τ h => by cases h.1)) (fun τ0 => hm_vz (m_close_v hr0 hn b) (by omega) ⟨_, rfl⟩ (AI_i (by rw [gs_prs (f := MB 55) (r := r0) hn e9]; rfl)) trivial (fun q i k hq hi hk => gs_up4 hn e9 hq hi hk) (fun _ _ => rfl) (gs_zo hz hn))
set_option maxHeartbeats 1000000 in
set_option maxRecDepth 20000 in
theorem a_cover (hJ : JJ σ) (a0 : Int32) (a1 : Int32) : Ag mL_cover mX5_cover 8 1 6 [.ref 52, .int a0, .int a1, .ref 66] [.ref 54, .int a0, .int a1] σ TI AI D0 := by
  obtain ⟨n, MB, MI, mt, o, w, T, El, Lo, Hi, BL, BH, Od, Ls, hI, hz, rfl⟩ := JJ_open hJ
  have hn := cI_n hI
  have h1n := cI_1 hI
  have HS0 : ∀ τ, τ = px El Lo Hi BL BH Od Ls (nI n) (pm MB MI (nI n) mt (po o w T)) → HS n (rf (MB 55)) (MB 56) MB MI (nI n) mt o w T τ := fun τ h => ⟨El, Lo, Hi, BL, BH, Od, Ls, hI, h⟩
  cases c1 : isR a0
  · exact Ag_x (k := 1) (by decide) (g_cover px_x _ _ (x_cover_1 c1 _) (fun v τ h => by cases h.1) (fun E τ h => Or.inl ⟨Sum.inr.inj h.1, rfl, HS0 τ h.2⟩)) hz (fun τ0 => hm_x (m_cover_x (by rw [c1]; rfl)) (by omega) ⟨_, rfl⟩)
  · obtain ⟨r0, hr0, rfl⟩ := isR_of c1
    cases c2 : isR a1
    · exact Ag_x (k := 1) (by decide) (g_cover px_x _ _ (x_cover_2 hr0 c2) (fun v τ h => by cases h.1) (fun E τ h => Or.inl ⟨Sum.inr.inj h.1, rfl, HS0 τ h.2⟩)) hz (fun τ0 => hm_x (m_cover_x (by rw [c1, c2]; rfl)) (by omega) ⟨_, rfl⟩)
    · obtain ⟨r1, hr1, rfl⟩ := isR_of c2
      cases hg : anb (fun k => rchB (rf (MB 55) r0) n k k) n
      · exact Ag_v (g_cover px_x _ _ (x_cover_v hr0 hr1 hg hI) hv_i (fun E τ h => by cases h.1)) (fun τ0 => hm_vz (m_cover_v hr0 hr1 hn hg) (by omega) ⟨_, rfl⟩ (AI_i (by rw [gs_prs (f := MB 55) (r := r1) hn (G := cvB (rchB (rf (MB 55) r0) n) n) (fun _ _ _ _ => rfl)]; rfl)) trivial (fun q i k hq hi hk => gs_up4 hn (fun _ _ _ _ => rfl) hq hi hk) (fun _ _ => rfl) (gs_zo hz hn))
      · exact Ag_x (k := 2) (by decide) (g_cover px_x _ _ (x_cover_3 hr0 hr1 hg hI) (fun v τ h => by cases h.1) (fun E τ h => Or.inr ⟨Sum.inr.inj h.1, rfl, h.2⟩)) hz (fun τ0 => hm_xz (m_cover_y hr0 hr1 hn hg) (by omega) ⟨_, rfl⟩)
end ZZAG
