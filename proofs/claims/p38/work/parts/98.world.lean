section ZYW5
/-! the world of a play: its own four cells, the object behind its making, all in the order of the positions -/
def zp_T : zz_St := fun _ => .inr (0, [])
abbrev zp_s (MB : Nat → Nat → Bool) (rho : Nat → Int32) : zz_St := px (fun _ => nI 12) (fun _ _ => 0) (fun _ _ => 0) (fun _ => 0) (fun _ => 0) (fun _ _ => 0) (fun _ => 0) (nI 12) (pl MB rho (fun _ => 0) zp_T)
def zp_W (cA : Nat → ClassId) (a4 a5 a6 a7 : Nat) (MB : Nat → Nat → Bool) (rho : Nat → Int32) : va_W := [(a4, .inl (cA 2, 6480, .inl (fun i => zB (MB 54 i)))), (a5, .inl (cA 2, 6480, .inl (fun i => zB (MB 55 i)))), (a6, .inl (cA 2, 6480, .inl (fun i => zB (MB 56 i)))), (a7, .inl (cA 0, 1, .inl rho))]
variable {G : va_G} {cA : Nat → ClassId} {H : Heap}
def adL (l : List Nat) : Nat → Nat := fun k => l.getD k 0
set_option maxHeartbeats 4000000 in
set_option maxRecDepth 100000 in
theorem w0_P {MB : Nat → Nat → Bool} {rho : Nat → Int32} {b0 b1 b2 b3 b4 b5 b6 b7 b8 b9 b10 b11 b12 b13 b14 b15 b16 b17 b18 b19 b20 b21 b22 b23 b24 b25 b26 b27 b28 b29 b30 b31 b32 b33 b34 b35 b36 b37 b38 b39 b40 b41 b42 b43 b44 b45 b46 b47 b48 b49 b50 b51 b52 b53 b54 b55 b56 b57 x y : Nat} (hP : va_P G vwCl [(b0, .inr (1, [.int 12, .ref b8, .ref b16, .ref b24])), (b1, .inr (1, [.int 12, .ref b9, .ref b17, .ref b25])), (b2, .inr (1, [.int 12, .ref b10, .ref b18, .ref b26])), (b3, .inr (1, [.int 12, .ref b11, .ref b19, .ref b27])), (b4, .inr (1, [.int 12, .ref b12, .ref b20, .ref b28])), (b5, .inr (1, [.int 12, .ref b13, .ref b21, .ref b29])), (b6, .inr (1, [.int 12, .ref b14, .ref b22, .ref b30])), (b7, .inr (1, [.int 12, .ref b15, .ref b23, .ref b31])), (b8, .inl (cA 1, 80, .inr (.inl (fun _ => 0)))), (b9, .inl (cA 1, 80, .inr (.inl (fun _ => 0)))), (b10, .inl (cA 1, 80, .inr (.inl (fun _ => 0)))), (b11, .inl (cA 1, 80, .inr (.inl (fun _ => 0)))), (b12, .inl (cA 1, 80, .inr (.inl (fun _ => 0)))), (b13, .inl (cA 1, 80, .inr (.inl (fun _ => 0)))), (b14, .inl (cA 1, 80, .inr (.inl (fun _ => 0)))), (b15, .inl (cA 1, 80, .inr (.inl (fun _ => 0)))), (b16, .inl (cA 1, 80, .inr (.inl (fun _ => 0)))), (b17, .inl (cA 1, 80, .inr (.inl (fun _ => 0)))), (b18, .inl (cA 1, 80, .inr (.inl (fun _ => 0)))), (b19, .inl (cA 1, 80, .inr (.inl (fun _ => 0)))), (b20, .inl (cA 1, 80, .inr (.inl (fun _ => 0)))), (b21, .inl (cA 1, 80, .inr (.inl (fun _ => 0)))), (b22, .inl (cA 1, 80, .inr (.inl (fun _ => 0)))), (b23, .inl (cA 1, 80, .inr (.inl (fun _ => 0)))), (b24, .inr (0, [.long 0, .long 0])), (b25, .inr (0, [.long 0, .long 0])), (b26, .inr (0, [.long 0, .long 0])), (b27, .inr (0, [.long 0, .long 0])), (b28, .inr (0, [.long 0, .long 0])), (b29, .inr (0, [.long 0, .long 0])), (b30, .inr (0, [.long 0, .long 0])), (b31, .inr (0, [.long 0, .long 0])), (b32, .inr (0, [.long 0, .long 0])), (b33, .inr (0, [.long 0, .long 0])), (b34, .inr (0, [.long 0, .long 0])), (b35, .inr (0, [.long 0, .long 0])), (b36, .inr (0, [.long 0, .long 0])), (b37, .inr (0, [.long 0, .long 0])), (b38, .inr (0, [.long 0, .long 0])), (b39, .inr (0, [.long 0, .long 0])), (b40, .inr (0, [.long 0, .long 0])), (b41, .inr (0, [.long 0, .long 0])), (b42, .inr (0, [.long 0, .long 0])), (b43, .inr (0, [.long 0, .long 0])), (b44, .inr (0, [.long 0, .long 0])), (b45, .inr (0, [.long 0, .long 0])), (b46, .inl (cA 0, 80, .inl (fun _ => 0))), (b47, .inl (cA 0, 80, .inl (fun _ => 0))), (b48, .inl (cA 0, 80, .inl (fun _ => 0))), (b49, .inr (3, [.ref b34, .ref b35, .ref b36, .ref b37, .ref b38, .ref b46])), (b50, .inr (3, [.ref b39, .ref b40, .ref b41, .ref b42, .ref b43, .ref b47])), (b51, .inr (2, [.ref b50, .ref b5, .ref b6, .ref b7, .ref b44, .ref b45, .ref b48])), (b52, .inr (4, [.int 12, .ref b53, .ref b32, .ref b33, .ref b4, .ref b49, .ref b51])), (b53, .inl (cA 3, 4, .inr (.inr (.inr (.inr (va_up (va_up (va_up (va_up (fun _ => none) 0 (some b0)) 1 (some b1)) 2 (some b2)) 3 (some b3))))))), (b54, .inl (cA 2, 6480, .inl (fun i => zB (MB 54 i)))), (b55, .inl (cA 2, 6480, .inl (fun i => zB (MB 55 i)))), (b56, .inl (cA 2, 6480, .inl (fun i => zB (MB 56 i)))), (b57, .inl (cA 0, 1, .inl rho))] H) : va_P G vwCl (zz_W (adL [b0, b1, b2, b3, b4, b5, b6, b7, b8, b9, b10, b11, b12, b13, b14, b15, b16, b17, b18, b19, b20, b21, b22, b23, b24, b25, b26, b27, b28, b29, b30, b31, b32, b33, b34, b35, b36, b37, b38, b39, b40, b41, b42, b43, b44, b45, b46, b47, b48, b49, b50, b51, b52, b53, b54, b55, b56, b57, x, y]) cA (zp_s MB rho)) H := by
  intro k q hk
  obtain ⟨h1, -⟩ := zz_W_at hk
  rw [zz_W_get h1] at hk
  cases hk
  have h0 : zz_k (zp_s MB rho) = 0 := rfl
  rw [h0] at h1
  rcases (show k = 0 ∨ k = 1 ∨ k = 2 ∨ k = 3 ∨ k = 4 ∨ k = 5 ∨ k = 6 ∨ k = 7 ∨ k = 8 ∨ k = 9 ∨ k = 10 ∨ k = 11 ∨ k = 12 ∨ k = 13 ∨ k = 14 ∨ k = 15 ∨ k = 16 ∨ k = 17 ∨ k = 18 ∨ k = 19 ∨ k = 20 ∨ k = 21 ∨ k = 22 ∨ k = 23 ∨ k = 24 ∨ k = 25 ∨ k = 26 ∨ k = 27 ∨ k = 28 ∨ k = 29 ∨ k = 30 ∨ k = 31 ∨ k = 32 ∨ k = 33 ∨ k = 34 ∨ k = 35 ∨ k = 36 ∨ k = 37 ∨ k = 38 ∨ k = 39 ∨ k = 40 ∨ k = 41 ∨ k = 42 ∨ k = 43 ∨ k = 44 ∨ k = 45 ∨ k = 46 ∨ k = 47 ∨ k = 48 ∨ k = 49 ∨ k = 50 ∨ k = 51 ∨ k = 52 ∨ k = 53 ∨ k = 54 ∨ k = 55 ∨ k = 56 ∨ k = 57 by omega) with rfl | rfl | rfl | rfl | rfl | rfl | rfl | rfl | rfl | rfl | rfl | rfl | rfl | rfl | rfl | rfl | rfl | rfl | rfl | rfl | rfl | rfl | rfl | rfl | rfl | rfl | rfl | rfl | rfl | rfl | rfl | rfl | rfl | rfl | rfl | rfl | rfl | rfl | rfl | rfl | rfl | rfl | rfl | rfl | rfl | rfl | rfl | rfl | rfl | rfl | rfl | rfl | rfl | rfl | rfl | rfl | rfl | rfl
  · exact hP 0 _ rfl
  · exact hP 1 _ rfl
  · exact hP 2 _ rfl
  · exact hP 3 _ rfl
  · exact hP 4 _ rfl
  · exact hP 5 _ rfl
  · exact hP 6 _ rfl
  · exact hP 7 _ rfl
  · exact hP 8 _ rfl
  · exact hP 9 _ rfl
  · exact hP 10 _ rfl
  · exact hP 11 _ rfl
  · exact hP 12 _ rfl
  · exact hP 13 _ rfl
  · exact hP 14 _ rfl
  · exact hP 15 _ rfl
  · exact hP 16 _ rfl
  · exact hP 17 _ rfl
  · exact hP 18 _ rfl
  · exact hP 19 _ rfl
  · exact hP 20 _ rfl
  · exact hP 21 _ rfl
  · exact hP 22 _ rfl
  · exact hP 23 _ rfl
  · exact hP 24 _ rfl
  · exact hP 25 _ rfl
  · exact hP 26 _ rfl
  · exact hP 27 _ rfl
  · exact hP 28 _ rfl
  · exact hP 29 _ rfl
  · exact hP 30 _ rfl
  · exact hP 31 _ rfl
  · exact hP 32 _ rfl
  · exact hP 33 _ rfl
  · exact hP 34 _ rfl
  · exact hP 35 _ rfl
  · exact hP 36 _ rfl
  · exact hP 37 _ rfl
  · exact hP 38 _ rfl
  · exact hP 39 _ rfl
  · exact hP 40 _ rfl
  · exact hP 41 _ rfl
  · exact hP 42 _ rfl
  · exact hP 43 _ rfl
  · exact hP 44 _ rfl
  · exact hP 45 _ rfl
  · exact hP 46 _ rfl
  · exact hP 47 _ rfl
  · exact hP 48 _ rfl
  · exact hP 49 _ rfl
  · exact hP 50 _ rfl
  · exact hP 51 _ rfl
  · exact hP 52 _ rfl
  · have h9 := hP 53 _ rfl
    exact h9.trans (congrArg some (cell4 rfl rfl rfl rfl))
  · exact hP 54 _ rfl
  · exact hP 55 _ rfl
  · exact hP 56 _ rfl
  · exact hP 57 _ rfl
theorem w0_ad {ws : va_W} {t : List Nat} {i : Nat} {x : Nat × va_E} (h : ws[i]? = some x) : adL (ws.map (fun q => q.1) ++ t) i = x.1 := by
  have hl : i < ws.length := (List.getElem?_eq_some_iff.mp h).1
  unfold adL
  rw [List.getD_eq_getElem?_getD, List.getElem?_append_left (by rw [List.length_map]; exact hl), List.getElem?_map, h]
  rfl
theorem w0_bk {ws : va_W} {t : List Nat} (hl : ws.length = 58) (j : Nat) : adL (ws.map (fun q => q.1) ++ t) (58 + j) = t.getD j 0 := by
  unfold adL
  rw [List.getD_eq_getElem?_getD, List.getElem?_append_right (by rw [List.length_map, hl]; omega), List.length_map, hl, Nat.add_sub_cancel_left, List.getD_eq_getElem?_getD]
theorem w0_get {ws : va_W} (hl : ws.length = 58) {k : Nat} (hk : k < 58) : ∃ x, ws[k]? = some x := ⟨ws[k]'(by omega), List.getElem?_eq_getElem (by omega)⟩
theorem w0_lt {ws : va_W} {z : Nat} (hl : ws.length = 58) (hlt : ∀ (k : Nat) (x : Nat × va_E), ws[k]? = some x → x.1 < z) {k : Nat} (hk : k < 58) : adL (ws.map (fun q => q.1) ++ [z, z + 1]) k < z := by
  obtain ⟨x, hx⟩ := w0_get hl hk
  rw [w0_ad hx]
  exact hlt k x hx
theorem w0_inj {A : Nat → Prop} {ws : va_W} {z : Nat} (hl : ws.length = 58) (hD : va_D A ws) (hlt : ∀ (k : Nat) (x : Nat × va_E), ws[k]? = some x → x.1 < z) : zz_inj (adL (ws.map (fun q => q.1) ++ [z, z + 1])) := by
  have e8 : adL (ws.map (fun q => q.1) ++ [z, z + 1]) 58 = z := w0_bk hl 0
  have e9 : adL (ws.map (fun q => q.1) ++ [z, z + 1]) 59 = z + 1 := w0_bk hl 1
  intro i j hi hj e
  by_cases h1 : i < 58
  · by_cases h2 : j < 58
    · obtain ⟨x, hx⟩ := w0_get hl h1
      obtain ⟨y, hy⟩ := w0_get hl h2
      rw [w0_ad hx, w0_ad hy] at e
      exact hD.1 i j x y hx hy e
    · have h3 := w0_lt hl hlt h1
      rcases (show j = 58 ∨ j = 59 by omega) with rfl | rfl
      · rw [e, e8] at h3; omega
      · rw [e, e9] at h3; omega
  · by_cases h2 : j < 58
    · have h3 := w0_lt hl hlt h2
      rcases (show i = 58 ∨ i = 59 by omega) with rfl | rfl
      · rw [← e, e8] at h3; omega
      · rw [← e, e9] at h3; omega
    · rcases (show i = 58 ∨ i = 59 by omega) with rfl | rfl <;> rcases (show j = 58 ∨ j = 59 by omega) with rfl | rfl
      · rfl
      · rw [e8, e9] at e; omega
      · rw [e8, e9] at e; omega
      · rfl
theorem w0_A {A : Nat → Prop} {ws : va_W} {z : Nat} (hl : ws.length = 58) (hD : va_D A ws) (hz : ∀ q, z ≤ q → A q) {k : Nat} (hk : k < 60) : A (adL (ws.map (fun q => q.1) ++ [z, z + 1]) k) := by
  by_cases h1 : k < 58
  · obtain ⟨x, hx⟩ := w0_get hl h1
    rw [w0_ad hx]
    exact hD.2 k x hx
  · rcases (show k = 58 ∨ k = 59 by omega) with rfl | rfl
    · rw [show adL (ws.map (fun q => q.1) ++ [z, z + 1]) 58 = z from w0_bk hl 0]
      exact hz _ (Nat.le_refl _)
    · rw [show adL (ws.map (fun q => q.1) ++ [z, z + 1]) 59 = z + 1 from w0_bk hl 1]
      exact hz _ (Nat.le_succ _)
/-- the four cells, out of a play's store -/
theorem zp_out {ad : Nat → Nat} {El : Nat → Int32} {Lo Hi : Nat → Nat → Int64} {BL BH : Nat → Int64} {Od : Nat → Nat → Int32} {Ls : Nat → Int32} {nn : Int32} {MB : Nat → Nat → Bool} {rho nu : Nat → Int32} {T : zz_St} (h : va_P G vwCl (zz_W ad cA (px El Lo Hi BL BH Od Ls nn (pl MB rho nu T))) H) : va_P G vwCl (zp_W cA (ad 54) (ad 55) (ad 56) (ad 57) MB rho) H := by
  intro k q hk
  have g : ∀ j, j < 58 → va_at G vwCl (ad j, zz_E1 ad cA (px El Lo Hi BL BH Od Ls nn (pl MB rho nu T) j)) H := fun j hj => h j _ (zz_W_get (by omega))
  match k, hk with
  | 0, hk =>
    cases hk
    have h9 := g 54 (by omega)
    rw [pq_b (by omega)] at h9
    exact h9
  | 1, hk =>
    cases hk
    have h9 := g 55 (by omega)
    rw [pq_b (by omega)] at h9
    exact h9
  | 2, hk =>
    cases hk
    have h9 := g 56 (by omega)
    rw [pq_b (by omega)] at h9
    exact h9
  | 3, hk =>
    cases hk
    exact g 57 (by omega)
  | k + 4, hk => simp [zp_W] at hk
theorem zp_WD {A : Nat → Prop} {a4 a5 a6 a7 : Nat} {MB MB2 : Nat → Nat → Bool} {rho rho2 : Nat → Int32} (h : va_D A (zp_W cA a4 a5 a6 a7 MB rho)) : va_D A (zp_W cA a4 a5 a6 a7 MB2 rho2) := by
  have e : ∀ (k : Nat) (q : Nat × va_E), (zp_W cA a4 a5 a6 a7 MB2 rho2)[k]? = some q → ∃ q', (zp_W cA a4 a5 a6 a7 MB rho)[k]? = some q' ∧ q'.1 = q.1 := by
    intro k q hk
    match k, hk with
    | 0, hk => cases hk; exact ⟨_, rfl, rfl⟩
    | 1, hk => cases hk; exact ⟨_, rfl, rfl⟩
    | 2, hk => cases hk; exact ⟨_, rfl, rfl⟩
    | 3, hk => cases hk; exact ⟨_, rfl, rfl⟩
    | k + 4, hk => simp [zp_W] at hk
  refine ⟨fun i j p q hp hq e9 => ?_, fun k q hq => ?_⟩
  · obtain ⟨p', h1, h2⟩ := e i p hp
    obtain ⟨q', h3, h4⟩ := e j q hq
    exact h.1 i j p' q' h1 h3 (by rw [h2, h4, e9])
  · obtain ⟨q', h3, h4⟩ := e k q hq
    rw [← h4]
    exact h.2 k q' h3
/-- what a play asks of its start -/
def zp_pre (G : va_G) (cA : Nat → ClassId) (ws : va_W) (sz : Nat) : State → Prop := fun U => U.heap.size = sz ∧ va_P G vwCl ws U.heap ∧ va_K G vwCl (zz_tys cA) U ∧ zn_Z U ∧ zz_Z (va_A ws sz) U U.heap ∧ va_D (fun _ => True) ws
end ZYW5
