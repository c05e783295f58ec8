section ZZ8
variable {El : Nat → Int32} {Lo Hi : Nat → Nat → Int64} {BL BH : Nat → Int64} {Od : Nat → Nat → Int32} {Ls : Nat → Int32} {nn : Int32} {T : zz_St}
theorem sbz_t {a b c d : Int64} : sbz a b c d = true ↔ ∀ k, k < 128 → tb a b k = true → tb c d k = true := by
  unfold sbz
  rw [Bool.and_eq_true, decide_eq_true_iff, decide_eq_true_iff, tb_z]
  constructor
  · intro h k hk h1
    have := h k hk
    rw [tb_and, h1, tb_not _ _ hk] at this
    simpa using this
  · intro h k hk
    rw [tb_and, tb_not _ _ hk]
    cases h1 : tb a b k
    · rfl
    · rw [h k hk h1]; rfl
theorem sbz_e {a b c d : Int64} (h : ∀ k, k < 128 → (tb a b k = true ↔ tb c d k = true)) : sbz a b c d = true ∧ sbz c d a b = true := ⟨sbz_t.mpr (fun k hk => (h k hk).mp), sbz_t.mpr (fun k hk => (h k hk).mpr)⟩
theorem cpy_lt {α : Type} {n k : Nat} (h : k < n) (g f : Nat → α) : cpy n g f k = g k := if_pos h
theorem cln_cpy {g h f f2 : Nat → Int64} {n : Nat} (hc : ∀ k, k < n → cl2 (g k) (h k) n) : cln (cpy n g f) (cpy n h f2) n := fun i hi k hk => by
  rw [cpy_lt hi, cpy_lt hi]; exact hc i hi k hk
theorem cln_row {L H : Nat → Int64} {n i : Nat} (hc : cln L H n) (hi : i < n) : cl2 (L i) (H i) n := hc i hi
theorem cl2_lt {lo hi : Int64} {n j : Nat} (h : cl2 lo hi n) (hj : tb lo hi j = true) : j < n := by
  rcases Nat.lt_or_ge j n with h1 | h1
  · exact h1
  · rw [h j h1] at hj; cases hj
theorem alb_2 {f g : Nat → Bool} {n : Nat} (h : ∀ k, k < n → f k = true ∧ g k = true) : (alb f n && alb g n) = true := by
  rw [Bool.and_eq_true]
  exact ⟨alb_t.mpr (fun k hk => (h k hk).1), alb_t.mpr (fun k hk => (h k hk).2)⟩
/-- composition is associative -/
theorem th_as {n : Nat} {A A' B B' C C' M M' N N' : Nat → Int64} (ha : cln A A' n) (hM : ∀ k, k < n → M k = ig B (A k) (A' k) ∧ M' k = ig B' (A k) (A' k)) (hN : ∀ k, k < n → N k = ig C (B k) (B' k) ∧ N' k = ig C' (B k) (B' k)) (k : Nat) (hk : k < n) (j : Nat) : tb (ig C (M k) (M' k)) (ig C' (M k) (M' k)) j = true ↔ tb (ig N (A k) (A' k)) (ig N' (A k) (A' k)) j = true := by
  rw [ig_tb, ig_tb, (hM k hk).1, (hM k hk).2]
  constructor
  · rintro ⟨i, h1, h2, h3⟩
    obtain ⟨l, h4, h5, h6⟩ := (ig_tb _ _ _ _ _).mp h2
    have hl := cl2_lt (ha k hk) h5
    refine ⟨l, h4, h5, ?_⟩
    rw [(hN l hl).1, (hN l hl).2, ig_tb]
    exact ⟨i, h1, h6, h3⟩
  · rintro ⟨l, h4, h5, h6⟩
    have hl := cl2_lt (ha k hk) h5
    rw [(hN l hl).1, (hN l hl).2, ig_tb] at h6
    obtain ⟨i, h1, h7, h3⟩ := h6
    exact ⟨i, h1, (ig_tb _ _ _ _ _).mpr ⟨l, h4, h5, h7⟩, h3⟩
theorem mxd_0 (a b : Int64) : mxd a b (nI 0) = a ||| b := rfl
/-- it distributes over union, ahead -/
theorem th_db {n : Nat} {A A' B B' C C' M M' : Nat → Int64} (ha : cln A A' n) (hM : ∀ k, k < n → M k = B k ||| C k ∧ M' k = B' k ||| C' k) (k : Nat) (hk : k < n) (j : Nat) : tb (ig M (A k) (A' k)) (ig M' (A k) (A' k)) j = true ↔ tb (ig C (A k) (A' k) ||| ig B (A k) (A' k)) (ig C' (A k) (A' k) ||| ig B' (A k) (A' k)) j = true := by
  rw [tb_or, Bool.or_eq_true, ig_tb, ig_tb, ig_tb]
  constructor
  · rintro ⟨i, h1, h2, h3⟩
    have hl := cl2_lt (ha k hk) h2
    rw [(hM i hl).1, (hM i hl).2, tb_or, Bool.or_eq_true] at h3
    rcases h3 with h3 | h3
    · exact Or.inr ⟨i, h1, h2, h3⟩
    · exact Or.inl ⟨i, h1, h2, h3⟩
  · rintro (⟨i, h1, h2, h3⟩ | ⟨i, h1, h2, h3⟩)
    · have hl := cl2_lt (ha k hk) h2
      exact ⟨i, h1, h2, by rw [(hM i hl).1, (hM i hl).2, tb_or, h3, Bool.or_true]⟩
    · have hl := cl2_lt (ha k hk) h2
      exact ⟨i, h1, h2, by rw [(hM i hl).1, (hM i hl).2, tb_or, h3, Bool.true_or]⟩
/-- .. and behind -/
theorem th_dh {C C' : Nat → Int64} {a a' b b' : Int64} (j : Nat) : tb (ig C (a ||| b) (a' ||| b')) (ig C' (a ||| b) (a' ||| b')) j = true ↔ tb (ig C b b' ||| ig C a a') (ig C' b b' ||| ig C' a a') j = true := by
  rw [tb_or, Bool.or_eq_true, ig_tb, ig_tb, ig_tb]
  constructor
  · rintro ⟨i, h1, h2, h3⟩
    rw [tb_or, Bool.or_eq_true] at h2
    rcases h2 with h2 | h2
    · exact Or.inr ⟨i, h1, h2, h3⟩
    · exact Or.inl ⟨i, h1, h2, h3⟩
  · rintro (⟨i, h1, h2, h3⟩ | ⟨i, h1, h2, h3⟩)
    · exact ⟨i, h1, by rw [tb_or, h2, Bool.or_true], h3⟩
    · exact ⟨i, h1, by rw [tb_or, h2, Bool.true_or], h3⟩
/-- the theorem's relations and sets may differ -/
def frR {α : Type} (F F' : Nat → α) : Prop := ∀ r, r < 5 → F' r = F r
theorem frR_r {α : Type} (F : Nat → α) : frR F F := fun _ _ => rfl
theorem frR_u {α : Type} {F F' : Nat → α} (h : frR F F') {q : Nat} (hq : 5 ≤ q) (v : α) : frR F (va_up F' q v) := fun r hr => by rw [up_ne _ _ (by omega)]; exact h r hr
set_option maxHeartbeats 1000000 in
set_option maxRecDepth 20000 in
theorem c_isAssociative {a b c : Nat} (ha : a < 3) (hb : b < 3) (hc : c < 3) {n : Nat} (hn : n ≤ 80) (hEa : El a = nI n) (hEb : El b = nI n) (hEc : El c = nI n) (hca : cln (Lo a) (Hi a) n) (hcb : cln (Lo b) (Hi b) n) (hcc : cln (Lo c) (Hi c) n) : zz_C mX2_isAssociative 5 0 0 [.ref 51, .ref a, .ref b, .ref c] (px El Lo Hi BL BH Od Ls nn T) (fun o τ => o = .inl (some (.int (zB true))) ∧ ∃ E F G B C, frR El E ∧ frR Lo F ∧ frR Hi G ∧ frT BL B ∧ frT BH C ∧ τ = px E F G B C Od Ls nn T) := by
  refine zz_start wPX2_isAssociative rfl rfl (Nat.le_of_ble_eq_true rfl) ?_
  have a5 : a ≠ 5 := by omega
  have a6 : a ≠ 6 := by omega
  have a7 : a ≠ 7 := by omega
  have b5 : b ≠ 5 := by omega
  have b6 : b ≠ 6 := by omega
  have b7 : b ≠ 7 := by omega
  have c5 : c ≠ 5 := by omega
  have c6 : c ≠ 6 := by omega
  have c7 : c ≠ 7 := by omega
  have e57 : (5 : Nat) ≠ 7 := by decide
  have e56 : (5 : Nat) ≠ 6 := by decide
  have e75 : (7 : Nat) ≠ 5 := by decide
  have e76 : (7 : Nat) ≠ 6 := by decide
  have e65 : (6 : Nat) ≠ 5 := by decide
  have e67 : (6 : Nat) ≠ 7 := by decide
  refine zz_aload_n dX2_isAssociative_0 rfl ?_
  refine zz_get (ci := 2) (j := 3) zz_inX2 rfl zw_f_X2_28 rfl (by decide) dX2_isAssociative_1 (by omega) px_th rfl ?_
  refine zz_aload_n dX2_isAssociative_4 rfl ?_
  refine zz_aload_n dX2_isAssociative_5 rfl ?_
  refine zz_callV (ci := 1) (c_product (r := 7) (by omega) (a := a) (by omega) (b := b) (by omega) (by omega) (by omega) hn (by first | exact hEa | (simp only [up_at, up_up, up_ne _ _ a5, up_ne _ _ a6, up_ne _ _ a7, up_ne _ _ b5, up_ne _ _ b6, up_ne _ _ b7, up_ne _ _ c5, up_ne _ _ c6, up_ne _ _ c7, up_ne _ _ e57, up_ne _ _ e56, up_ne _ _ e75, up_ne _ _ e76, up_ne _ _ e65, up_ne _ _ e67]; exact hEa)) (by first | exact hEb | (simp only [up_at, up_up, up_ne _ _ a5, up_ne _ _ a6, up_ne _ _ a7, up_ne _ _ b5, up_ne _ _ b6, up_ne _ _ b7, up_ne _ _ c5, up_ne _ _ c6, up_ne _ _ c7, up_ne _ _ e57, up_ne _ _ e56, up_ne _ _ e75, up_ne _ _ e76, up_ne _ _ e65, up_ne _ _ e67]; exact hEb)) (by first | exact hca | (simp only [up_at, up_up, up_ne _ _ a5, up_ne _ _ a6, up_ne _ _ a7, up_ne _ _ b5, up_ne _ _ b6, up_ne _ _ b7, up_ne _ _ c5, up_ne _ _ c6, up_ne _ _ c7, up_ne _ _ e57, up_ne _ _ e56, up_ne _ _ e75, up_ne _ _ e76, up_ne _ _ e65, up_ne _ _ e67]; exact hca))) dX2_isAssociative_6 zw_m_X2_140 wYX1_product wDX1_product rfl (by omega) (px_rel (by omega)) rfl (Nat.le_of_ble_eq_true rfl) (by decide) (by omega) (by omega) rfl ?_ (fun E τ hE => by cases hE.1)
  rintro _ _ ⟨hv, B1, C1, hB1, hC1, rfl⟩
  cases hv
  try simp only [up_at, up_up, up_ne _ _ a5, up_ne _ _ a6, up_ne _ _ a7, up_ne _ _ b5, up_ne _ _ b6, up_ne _ _ b7, up_ne _ _ c5, up_ne _ _ c6, up_ne _ _ c7, up_ne _ _ e57, up_ne _ _ e56, up_ne _ _ e75, up_ne _ _ e76, up_ne _ _ e65, up_ne _ _ e67]
  refine zz_aload_n dX2_isAssociative_9 rfl ?_
  refine zz_get (ci := 2) (j := 1) zz_inX2 rfl zw_f_X2_21 rfl (by decide) dX2_isAssociative_10 (by omega) px_th rfl ?_
  refine zz_aload_n dX2_isAssociative_13 rfl ?_
  refine zz_get (ci := 2) (j := 3) zz_inX2 rfl zw_f_X2_28 rfl (by decide) dX2_isAssociative_14 (by omega) px_th rfl ?_
  refine zz_aload_n dX2_isAssociative_17 rfl ?_
  refine zz_callV (ci := 1) (c_product (r := 5) (by omega) (a := 7) (by omega) (b := c) (by omega) (by omega) (by omega) hn (by first | exact hEa | (simp only [up_at, up_up, up_ne _ _ a5, up_ne _ _ a6, up_ne _ _ a7, up_ne _ _ b5, up_ne _ _ b6, up_ne _ _ b7, up_ne _ _ c5, up_ne _ _ c6, up_ne _ _ c7, up_ne _ _ e57, up_ne _ _ e56, up_ne _ _ e75, up_ne _ _ e76, up_ne _ _ e65, up_ne _ _ e67]; exact hEa)) (by first | exact hEc | (simp only [up_at, up_up, up_ne _ _ a5, up_ne _ _ a6, up_ne _ _ a7, up_ne _ _ b5, up_ne _ _ b6, up_ne _ _ b7, up_ne _ _ c5, up_ne _ _ c6, up_ne _ _ c7, up_ne _ _ e57, up_ne _ _ e56, up_ne _ _ e75, up_ne _ _ e76, up_ne _ _ e65, up_ne _ _ e67]; exact hEc)) (by first | exact cln_cpy (fun k hk => ig_cl hcb (cln_row hca hk)) | (simp only [up_at, up_up, up_ne _ _ a5, up_ne _ _ a6, up_ne _ _ a7, up_ne _ _ b5, up_ne _ _ b6, up_ne _ _ b7, up_ne _ _ c5, up_ne _ _ c6, up_ne _ _ c7, up_ne _ _ e57, up_ne _ _ e56, up_ne _ _ e75, up_ne _ _ e76, up_ne _ _ e65, up_ne _ _ e67]; exact cln_cpy (fun k hk => ig_cl hcb (cln_row hca hk))))) dX2_isAssociative_18 zw_m_X2_140 wYX1_product wDX1_product rfl (by omega) (px_rel (by omega)) rfl (Nat.le_of_ble_eq_true rfl) (by decide) (by omega) (by omega) rfl ?_ (fun E τ hE => by cases hE.1)
  rintro _ _ ⟨hv, B2, C2, hB2, hC2, rfl⟩
  cases hv
  try simp only [up_at, up_up, up_ne _ _ a5, up_ne _ _ a6, up_ne _ _ a7, up_ne _ _ b5, up_ne _ _ b6, up_ne _ _ b7, up_ne _ _ c5, up_ne _ _ c6, up_ne _ _ c7, up_ne _ _ e57, up_ne _ _ e56, up_ne _ _ e75, up_ne _ _ e76, up_ne _ _ e65, up_ne _ _ e67]
  refine zz_aload_n dX2_isAssociative_21 rfl ?_
  refine zz_get (ci := 2) (j := 3) zz_inX2 rfl zw_f_X2_28 rfl (by decide) dX2_isAssociative_22 (by omega) px_th rfl ?_
  refine zz_aload_n dX2_isAssociative_25 rfl ?_
  refine zz_aload_n dX2_isAssociative_26 rfl ?_
  refine zz_callV (ci := 1) (c_product (r := 7) (by omega) (a := b) (by omega) (b := c) (by omega) (by omega) (by omega) hn (by first | exact hEb | (simp only [up_at, up_up, up_ne _ _ a5, up_ne _ _ a6, up_ne _ _ a7, up_ne _ _ b5, up_ne _ _ b6, up_ne _ _ b7, up_ne _ _ c5, up_ne _ _ c6, up_ne _ _ c7, up_ne _ _ e57, up_ne _ _ e56, up_ne _ _ e75, up_ne _ _ e76, up_ne _ _ e65, up_ne _ _ e67]; exact hEb)) (by first | exact hEc | (simp only [up_at, up_up, up_ne _ _ a5, up_ne _ _ a6, up_ne _ _ a7, up_ne _ _ b5, up_ne _ _ b6, up_ne _ _ b7, up_ne _ _ c5, up_ne _ _ c6, up_ne _ _ c7, up_ne _ _ e57, up_ne _ _ e56, up_ne _ _ e75, up_ne _ _ e76, up_ne _ _ e65, up_ne _ _ e67]; exact hEc)) (by first | exact hcb | (simp only [up_at, up_up, up_ne _ _ a5, up_ne _ _ a6, up_ne _ _ a7, up_ne _ _ b5, up_ne _ _ b6, up_ne _ _ b7, up_ne _ _ c5, up_ne _ _ c6, up_ne _ _ c7, up_ne _ _ e57, up_ne _ _ e56, up_ne _ _ e75, up_ne _ _ e76, up_ne _ _ e65, up_ne _ _ e67]; exact hcb))) dX2_isAssociative_27 zw_m_X2_140 wYX1_product wDX1_product rfl (by omega) (px_rel (by omega)) rfl (Nat.le_of_ble_eq_true rfl) (by decide) (by omega) (by omega) rfl ?_ (fun E τ hE => by cases hE.1)
  rintro _ _ ⟨hv, B3, C3, hB3, hC3, rfl⟩
  cases hv
  try simp only [up_at, up_up, up_ne _ _ a5, up_ne _ _ a6, up_ne _ _ a7, up_ne _ _ b5, up_ne _ _ b6, up_ne _ _ b7, up_ne _ _ c5, up_ne _ _ c6, up_ne _ _ c7, up_ne _ _ e57, up_ne _ _ e56, up_ne _ _ e75, up_ne _ _ e76, up_ne _ _ e65, up_ne _ _ e67]
  refine zz_aload_n dX2_isAssociative_30 rfl ?_
  refine zz_get (ci := 2) (j := 2) zz_inX2 rfl zw_f_X2_25 rfl (by decide) dX2_isAssociative_31 (by omega) px_th rfl ?_
  refine zz_aload_n dX2_isAssociative_34 rfl ?_
  refine zz_aload_n dX2_isAssociative_35 rfl ?_
  refine zz_get (ci := 2) (j := 3) zz_inX2 rfl zw_f_X2_28 rfl (by decide) dX2_isAssociative_36 (by omega) px_th rfl ?_
  refine zz_callV (ci := 1) (c_product (r := 6) (by omega) (a := a) (by omega) (b := 7) (by omega) (by omega) (by omega) hn (by first | exact hEa | (simp only [up_at, up_up, up_ne _ _ a5, up_ne _ _ a6, up_ne _ _ a7, up_ne _ _ b5, up_ne _ _ b6, up_ne _ _ b7, up_ne _ _ c5, up_ne _ _ c6, up_ne _ _ c7, up_ne _ _ e57, up_ne _ _ e56, up_ne _ _ e75, up_ne _ _ e76, up_ne _ _ e65, up_ne _ _ e67]; exact hEa)) (by first | exact hEb | (simp only [up_at, up_up, up_ne _ _ a5, up_ne _ _ a6, up_ne _ _ a7, up_ne _ _ b5, up_ne _ _ b6, up_ne _ _ b7, up_ne _ _ c5, up_ne _ _ c6, up_ne _ _ c7, up_ne _ _ e57, up_ne _ _ e56, up_ne _ _ e75, up_ne _ _ e76, up_ne _ _ e65, up_ne _ _ e67]; exact hEb)) (by first | exact hca | (simp only [up_at, up_up, up_ne _ _ a5, up_ne _ _ a6, up_ne _ _ a7, up_ne _ _ b5, up_ne _ _ b6, up_ne _ _ b7, up_ne _ _ c5, up_ne _ _ c6, up_ne _ _ c7, up_ne _ _ e57, up_ne _ _ e56, up_ne _ _ e75, up_ne _ _ e76, up_ne _ _ e65, up_ne _ _ e67]; exact hca))) dX2_isAssociative_39 zw_m_X2_140 wYX1_product wDX1_product rfl (by omega) (px_rel (by omega)) rfl (Nat.le_of_ble_eq_true rfl) (by decide) (by omega) (by omega) rfl ?_ (fun E τ hE => by cases hE.1)
  rintro _ _ ⟨hv, B4, C4, hB4, hC4, rfl⟩
  cases hv
  try simp only [up_at, up_up, up_ne _ _ a5, up_ne _ _ a6, up_ne _ _ a7, up_ne _ _ b5, up_ne _ _ b6, up_ne _ _ b7, up_ne _ _ c5, up_ne _ _ c6, up_ne _ _ c7, up_ne _ _ e57, up_ne _ _ e56, up_ne _ _ e75, up_ne _ _ e76, up_ne _ _ e65, up_ne _ _ e67]
  refine zz_aload_n dX2_isAssociative_42 rfl ?_
  refine zz_get (ci := 2) (j := 1) zz_inX2 rfl zw_f_X2_21 rfl (by decide) dX2_isAssociative_43 (by omega) px_th rfl ?_
  refine zz_aload_n dX2_isAssociative_46 rfl ?_
  refine zz_get (ci := 2) (j := 2) zz_inX2 rfl zw_f_X2_25 rfl (by decide) dX2_isAssociative_47 (by omega) px_th rfl ?_
  refine zz_callV1 (ci := 1) (c_risLike (r := 5) (by omega) (q := 6) (by omega) (n := n) (by simp only [up_at, up_up, up_ne _ _ a5, up_ne _ _ a6, up_ne _ _ a7, up_ne _ _ b5, up_ne _ _ b6, up_ne _ _ b7, up_ne _ _ c5, up_ne _ _ c6, up_ne _ _ c7, up_ne _ _ e57, up_ne _ _ e56, up_ne _ _ e75, up_ne _ _ e76, up_ne _ _ e65, up_ne _ _ e67]; exact hEa) hn (by simp only [up_at, up_up, up_ne _ _ a5, up_ne _ _ a6, up_ne _ _ a7, up_ne _ _ b5, up_ne _ _ b6, up_ne _ _ b7, up_ne _ _ c5, up_ne _ _ c6, up_ne _ _ c7, up_ne _ _ e57, up_ne _ _ e56, up_ne _ _ e75, up_ne _ _ e76, up_ne _ _ e65, up_ne _ _ e67]; exact hEa)) dX2_isAssociative_50 zw_m_X2_138 wYX1_isLike wDX1_isLike rfl (by omega) (px_rel (by omega)) rfl (Nat.le_of_ble_eq_true rfl) (by decide) rfl ?_
  refine zz_zret dX2_isAssociative_53 rfl (by first | rfl | exact zB_nar _) ?_
  simp only [up_at, up_up, up_ne _ _ a5, up_ne _ _ a6, up_ne _ _ a7, up_ne _ _ b5, up_ne _ _ b6, up_ne _ _ b7, up_ne _ _ c5, up_ne _ _ c6, up_ne _ _ c7, up_ne _ _ e57, up_ne _ _ e56, up_ne _ _ e75, up_ne _ _ e76, up_ne _ _ e65, up_ne _ _ e67]
  refine ⟨?_, _, _, _, _, _, (by repeat (first | exact frR_r _ | refine frR_u ?_ (by omega) _)), (by repeat (first | exact frR_r _ | refine frR_u ?_ (by omega) _)), (by repeat (first | exact frR_r _ | refine frR_u ?_ (by omega) _)), (frT_m (frT_m (frT_m (frT_m (frT_r _) (s := 24 + 7) (by omega) hB1) (s := 24 + 5) (by omega) hB2) (s := 24 + 7) (by omega) hB3) (s := 24 + 6) (by omega) hB4), (frT_m (frT_m (frT_m (frT_m (frT_r _) (s := 24 + 7) (by omega) hC1) (s := 24 + 5) (by omega) hC2) (s := 24 + 7) (by omega) hC3) (s := 24 + 6) (by omega) hC4), rfl⟩
  rw [alb_2 (fun k hk => ?_)]
  simp only [cpy_lt hk]
  have q := th_as hca (B := Lo b) (B' := Hi b) (C := Lo c) (C' := Hi c) (M := cpy n (fun k => ig (Lo b) (Lo a k) (Hi a k)) (Lo 7)) (M' := cpy n (fun k => ig (Hi b) (Lo a k) (Hi a k)) (Hi 7)) (fun i hi => ⟨cpy_lt hi _ _, cpy_lt hi _ _⟩) (N := cpy n (fun k => ig (Lo c) (Lo b k) (Hi b k)) (cpy n (fun k => ig (Lo b) (Lo a k) (Hi a k)) (Lo 7))) (N' := cpy n (fun k => ig (Hi c) (Lo b k) (Hi b k)) (cpy n (fun k => ig (Hi b) (Lo a k) (Hi a k)) (Hi 7))) (fun i hi => ⟨cpy_lt hi _ _, cpy_lt hi _ _⟩) k hk
  simp only [cpy_lt hk] at q
  exact (sbz_e (fun j _ => q j)).symm
set_option maxHeartbeats 1000000 in
set_option maxRecDepth 20000 in
theorem c_distBefore {a b c : Nat} (ha : a < 3) (hb : b < 3) (hc : c < 3) {n : Nat} (hn : n ≤ 80) (hEa : El a = nI n) (hEb : El b = nI n) (hEc : El c = nI n) (hca : cln (Lo a) (Hi a) n) (hcb : cln (Lo b) (Hi b) n) (hcc : cln (Lo c) (Hi c) n) : zz_C mX2_distributesBefore 5 0 0 [.ref 51, .ref a, .ref b, .ref c] (px El Lo Hi BL BH Od Ls nn T) (fun o τ => o = .inl (some (.int (zB true))) ∧ ∃ E F G B C, frR El E ∧ frR Lo F ∧ frR Hi G ∧ frT BL B ∧ frT BH C ∧ τ = px E F G B C Od Ls nn T) := by
  refine zz_start wPX2_distributesBefore rfl rfl (Nat.le_of_ble_eq_true rfl) ?_
  have a5 : a ≠ 5 := by omega
  have a6 : a ≠ 6 := by omega
  have a7 : a ≠ 7 := by omega
  have b5 : b ≠ 5 := by omega
  have b6 : b ≠ 6 := by omega
  have b7 : b ≠ 7 := by omega
  have c5 : c ≠ 5 := by omega
  have c6 : c ≠ 6 := by omega
  have c7 : c ≠ 7 := by omega
  have e57 : (5 : Nat) ≠ 7 := by decide
  have e56 : (5 : Nat) ≠ 6 := by decide
  have e75 : (7 : Nat) ≠ 5 := by decide
  have e76 : (7 : Nat) ≠ 6 := by decide
  have e65 : (6 : Nat) ≠ 5 := by decide
  have e67 : (6 : Nat) ≠ 7 := by decide
  refine zz_aload_n dX2_distributesBefore_0 rfl ?_
  refine zz_get (ci := 2) (j := 3) zz_inX2 rfl zw_f_X2_28 rfl (by decide) dX2_distributesBefore_1 (by omega) px_th rfl ?_
  refine zz_aload_n dX2_distributesBefore_4 rfl ?_
  refine zz_callV0 (ci := 1) (c_take (r := 7) (by omega) (q := b) (by omega) (n := n) (by first | exact hEb | (simp only [up_at, up_up, up_ne _ _ a5, up_ne _ _ a6, up_ne _ _ a7, up_ne _ _ b5, up_ne _ _ b6, up_ne _ _ b7, up_ne _ _ c5, up_ne _ _ c6, up_ne _ _ c7, up_ne _ _ e57, up_ne _ _ e56, up_ne _ _ e75, up_ne _ _ e76, up_ne _ _ e65, up_ne _ _ e67]; exact hEb)) hn) dX2_distributesBefore_5 zw_m_X2_45 wYX1_take wDX1_take rfl (by omega) (px_rel (by omega)) rfl (Nat.le_of_ble_eq_true rfl) (by decide) rfl ?_
  refine zz_aload_n dX2_distributesBefore_8 rfl ?_
  refine zz_get (ci := 2) (j := 3) zz_inX2 rfl zw_f_X2_28 rfl (by decide) dX2_distributesBefore_9 (by omega) px_th rfl ?_
  refine zz_aload_n dX2_distributesBefore_12 rfl ?_
  refine zz_iconst (v := 0) dX2_distributesBefore_13 (by decide) ?_
  refine zz_callV0 (ci := 1) (c_mix (r := 7) (by omega) (q := c) (by omega) (w := 0) (by omega) (n := n) (by first | exact hEb | (simp only [up_at, up_up, up_ne _ _ a5, up_ne _ _ a6, up_ne _ _ a7, up_ne _ _ b5, up_ne _ _ b6, up_ne _ _ b7, up_ne _ _ c5, up_ne _ _ c6, up_ne _ _ c7, up_ne _ _ e57, up_ne _ _ e56, up_ne _ _ e75, up_ne _ _ e76, up_ne _ _ e65, up_ne _ _ e67]; exact hEb)) hn) dX2_distributesBefore_14 zw_m_X2_144 wYX1_mix wDX1_mix rfl (by omega) (px_rel (by omega)) rfl (Nat.le_of_ble_eq_true rfl) (by decide) rfl ?_
  refine zz_aload_n dX2_distributesBefore_17 rfl ?_
  refine zz_get (ci := 2) (j := 1) zz_inX2 rfl zw_f_X2_21 rfl (by decide) dX2_distributesBefore_18 (by omega) px_th rfl ?_
  refine zz_aload_n dX2_distributesBefore_21 rfl ?_
  refine zz_aload_n dX2_distributesBefore_22 rfl ?_
  refine zz_get (ci := 2) (j := 3) zz_inX2 rfl zw_f_X2_28 rfl (by decide) dX2_distributesBefore_23 (by omega) px_th rfl ?_
  refine zz_callV (ci := 1) (c_product (r := 5) (by omega) (a := a) (by omega) (b := 7) (by omega) (by omega) (by omega) hn (by first | exact hEa | (simp only [up_at, up_up, up_ne _ _ a5, up_ne _ _ a6, up_ne _ _ a7, up_ne _ _ b5, up_ne _ _ b6, up_ne _ _ b7, up_ne _ _ c5, up_ne _ _ c6, up_ne _ _ c7, up_ne _ _ e57, up_ne _ _ e56, up_ne _ _ e75, up_ne _ _ e76, up_ne _ _ e65, up_ne _ _ e67]; exact hEa)) (by first | exact hEb | (simp only [up_at, up_up, up_ne _ _ a5, up_ne _ _ a6, up_ne _ _ a7, up_ne _ _ b5, up_ne _ _ b6, up_ne _ _ b7, up_ne _ _ c5, up_ne _ _ c6, up_ne _ _ c7, up_ne _ _ e57, up_ne _ _ e56, up_ne _ _ e75, up_ne _ _ e76, up_ne _ _ e65, up_ne _ _ e67]; exact hEb)) (by first | exact hca | (simp only [up_at, up_up, up_ne _ _ a5, up_ne _ _ a6, up_ne _ _ a7, up_ne _ _ b5, up_ne _ _ b6, up_ne _ _ b7, up_ne _ _ c5, up_ne _ _ c6, up_ne _ _ c7, up_ne _ _ e57, up_ne _ _ e56, up_ne _ _ e75, up_ne _ _ e76, up_ne _ _ e65, up_ne _ _ e67]; exact hca))) dX2_distributesBefore_26 zw_m_X2_140 wYX1_product wDX1_product rfl (by omega) (px_rel (by omega)) rfl (Nat.le_of_ble_eq_true rfl) (by decide) (by omega) (by omega) rfl ?_ (fun E τ hE => by cases hE.1)
  rintro _ _ ⟨hv, B1, C1, hB1, hC1, rfl⟩
  cases hv
  try simp only [up_at, up_up, up_ne _ _ a5, up_ne _ _ a6, up_ne _ _ a7, up_ne _ _ b5, up_ne _ _ b6, up_ne _ _ b7, up_ne _ _ c5, up_ne _ _ c6, up_ne _ _ c7, up_ne _ _ e57, up_ne _ _ e56, up_ne _ _ e75, up_ne _ _ e76, up_ne _ _ e65, up_ne _ _ e67]
  refine zz_aload_n dX2_distributesBefore_29 rfl ?_
  refine zz_get (ci := 2) (j := 3) zz_inX2 rfl zw_f_X2_28 rfl (by decide) dX2_distributesBefore_30 (by omega) px_th rfl ?_
  refine zz_aload_n dX2_distributesBefore_33 rfl ?_
  refine zz_aload_n dX2_distributesBefore_34 rfl ?_
  refine zz_callV (ci := 1) (c_product (r := 7) (by omega) (a := a) (by omega) (b := b) (by omega) (by omega) (by omega) hn (by first | exact hEa | (simp only [up_at, up_up, up_ne _ _ a5, up_ne _ _ a6, up_ne _ _ a7, up_ne _ _ b5, up_ne _ _ b6, up_ne _ _ b7, up_ne _ _ c5, up_ne _ _ c6, up_ne _ _ c7, up_ne _ _ e57, up_ne _ _ e56, up_ne _ _ e75, up_ne _ _ e76, up_ne _ _ e65, up_ne _ _ e67]; exact hEa)) (by first | exact hEb | (simp only [up_at, up_up, up_ne _ _ a5, up_ne _ _ a6, up_ne _ _ a7, up_ne _ _ b5, up_ne _ _ b6, up_ne _ _ b7, up_ne _ _ c5, up_ne _ _ c6, up_ne _ _ c7, up_ne _ _ e57, up_ne _ _ e56, up_ne _ _ e75, up_ne _ _ e76, up_ne _ _ e65, up_ne _ _ e67]; exact hEb)) (by first | exact hca | (simp only [up_at, up_up, up_ne _ _ a5, up_ne _ _ a6, up_ne _ _ a7, up_ne _ _ b5, up_ne _ _ b6, up_ne _ _ b7, up_ne _ _ c5, up_ne _ _ c6, up_ne _ _ c7, up_ne _ _ e57, up_ne _ _ e56, up_ne _ _ e75, up_ne _ _ e76, up_ne _ _ e65, up_ne _ _ e67]; exact hca))) dX2_distributesBefore_35 zw_m_X2_140 wYX1_product wDX1_product rfl (by omega) (px_rel (by omega)) rfl (Nat.le_of_ble_eq_true rfl) (by decide) (by omega) (by omega) rfl ?_ (fun E τ hE => by cases hE.1)
  rintro _ _ ⟨hv, B2, C2, hB2, hC2, rfl⟩
  cases hv
  try simp only [up_at, up_up, up_ne _ _ a5, up_ne _ _ a6, up_ne _ _ a7, up_ne _ _ b5, up_ne _ _ b6, up_ne _ _ b7, up_ne _ _ c5, up_ne _ _ c6, up_ne _ _ c7, up_ne _ _ e57, up_ne _ _ e56, up_ne _ _ e75, up_ne _ _ e76, up_ne _ _ e65, up_ne _ _ e67]
  refine zz_aload_n dX2_distributesBefore_38 rfl ?_
  refine zz_get (ci := 2) (j := 2) zz_inX2 rfl zw_f_X2_25 rfl (by decide) dX2_distributesBefore_39 (by omega) px_th rfl ?_
  refine zz_aload_n dX2_distributesBefore_42 rfl ?_
  refine zz_aload_n dX2_distributesBefore_43 rfl ?_
  refine zz_callV (ci := 1) (c_product (r := 6) (by omega) (a := a) (by omega) (b := c) (by omega) (by omega) (by omega) hn (by first | exact hEa | (simp only [up_at, up_up, up_ne _ _ a5, up_ne _ _ a6, up_ne _ _ a7, up_ne _ _ b5, up_ne _ _ b6, up_ne _ _ b7, up_ne _ _ c5, up_ne _ _ c6, up_ne _ _ c7, up_ne _ _ e57, up_ne _ _ e56, up_ne _ _ e75, up_ne _ _ e76, up_ne _ _ e65, up_ne _ _ e67]; exact hEa)) (by first | exact hEc | (simp only [up_at, up_up, up_ne _ _ a5, up_ne _ _ a6, up_ne _ _ a7, up_ne _ _ b5, up_ne _ _ b6, up_ne _ _ b7, up_ne _ _ c5, up_ne _ _ c6, up_ne _ _ c7, up_ne _ _ e57, up_ne _ _ e56, up_ne _ _ e75, up_ne _ _ e76, up_ne _ _ e65, up_ne _ _ e67]; exact hEc)) (by first | exact hca | (simp only [up_at, up_up, up_ne _ _ a5, up_ne _ _ a6, up_ne _ _ a7, up_ne _ _ b5, up_ne _ _ b6, up_ne _ _ b7, up_ne _ _ c5, up_ne _ _ c6, up_ne _ _ c7, up_ne _ _ e57, up_ne _ _ e56, up_ne _ _ e75, up_ne _ _ e76, up_ne _ _ e65, up_ne _ _ e67]; exact hca))) dX2_distributesBefore_44 zw_m_X2_140 wYX1_product wDX1_product rfl (by omega) (px_rel (by omega)) rfl (Nat.le_of_ble_eq_true rfl) (by decide) (by omega) (by omega) rfl ?_ (fun E τ hE => by cases hE.1)
  rintro _ _ ⟨hv, B3, C3, hB3, hC3, rfl⟩
  cases hv
  try simp only [up_at, up_up, up_ne _ _ a5, up_ne _ _ a6, up_ne _ _ a7, up_ne _ _ b5, up_ne _ _ b6, up_ne _ _ b7, up_ne _ _ c5, up_ne _ _ c6, up_ne _ _ c7, up_ne _ _ e57, up_ne _ _ e56, up_ne _ _ e75, up_ne _ _ e76, up_ne _ _ e65, up_ne _ _ e67]
  refine zz_aload_n dX2_distributesBefore_47 rfl ?_
  refine zz_get (ci := 2) (j := 2) zz_inX2 rfl zw_f_X2_25 rfl (by decide) dX2_distributesBefore_48 (by omega) px_th rfl ?_
  refine zz_aload_n dX2_distributesBefore_51 rfl ?_
  refine zz_get (ci := 2) (j := 3) zz_inX2 rfl zw_f_X2_28 rfl (by decide) dX2_distributesBefore_52 (by omega) px_th rfl ?_
  refine zz_iconst (v := 0) dX2_distributesBefore_55 (by decide) ?_
  refine zz_callV0 (ci := 1) (c_mix (r := 6) (by omega) (q := 7) (by omega) (w := 0) (by omega) (n := n) (by first | exact hEa | (simp only [up_at, up_up, up_ne _ _ a5, up_ne _ _ a6, up_ne _ _ a7, up_ne _ _ b5, up_ne _ _ b6, up_ne _ _ b7, up_ne _ _ c5, up_ne _ _ c6, up_ne _ _ c7, up_ne _ _ e57, up_ne _ _ e56, up_ne _ _ e75, up_ne _ _ e76, up_ne _ _ e65, up_ne _ _ e67]; exact hEa)) hn) dX2_distributesBefore_56 zw_m_X2_144 wYX1_mix wDX1_mix rfl (by omega) (px_rel (by omega)) rfl (Nat.le_of_ble_eq_true rfl) (by decide) rfl ?_
  refine zz_aload_n dX2_distributesBefore_59 rfl ?_
  refine zz_get (ci := 2) (j := 1) zz_inX2 rfl zw_f_X2_21 rfl (by decide) dX2_distributesBefore_60 (by omega) px_th rfl ?_
  refine zz_aload_n dX2_distributesBefore_63 rfl ?_
  refine zz_get (ci := 2) (j := 2) zz_inX2 rfl zw_f_X2_25 rfl (by decide) dX2_distributesBefore_64 (by omega) px_th rfl ?_
  refine zz_callV1 (ci := 1) (c_risLike (r := 5) (by omega) (q := 6) (by omega) (n := n) (by simp only [up_at, up_up, up_ne _ _ a5, up_ne _ _ a6, up_ne _ _ a7, up_ne _ _ b5, up_ne _ _ b6, up_ne _ _ b7, up_ne _ _ c5, up_ne _ _ c6, up_ne _ _ c7, up_ne _ _ e57, up_ne _ _ e56, up_ne _ _ e75, up_ne _ _ e76, up_ne _ _ e65, up_ne _ _ e67]; exact hEa) hn (by simp only [up_at, up_up, up_ne _ _ a5, up_ne _ _ a6, up_ne _ _ a7, up_ne _ _ b5, up_ne _ _ b6, up_ne _ _ b7, up_ne _ _ c5, up_ne _ _ c6, up_ne _ _ c7, up_ne _ _ e57, up_ne _ _ e56, up_ne _ _ e75, up_ne _ _ e76, up_ne _ _ e65, up_ne _ _ e67]; exact hEa)) dX2_distributesBefore_67 zw_m_X2_138 wYX1_isLike wDX1_isLike rfl (by omega) (px_rel (by omega)) rfl (Nat.le_of_ble_eq_true rfl) (by decide) rfl ?_
  refine zz_zret dX2_distributesBefore_70 rfl (by first | rfl | exact zB_nar _) ?_
  simp only [up_at, up_up, up_ne _ _ a5, up_ne _ _ a6, up_ne _ _ a7, up_ne _ _ b5, up_ne _ _ b6, up_ne _ _ b7, up_ne _ _ c5, up_ne _ _ c6, up_ne _ _ c7, up_ne _ _ e57, up_ne _ _ e56, up_ne _ _ e75, up_ne _ _ e76, up_ne _ _ e65, up_ne _ _ e67]
  refine ⟨?_, _, _, _, _, _, (by repeat (first | exact frR_r _ | refine frR_u ?_ (by omega) _)), (by repeat (first | exact frR_r _ | refine frR_u ?_ (by omega) _)), (by repeat (first | exact frR_r _ | refine frR_u ?_ (by omega) _)), (frT_m (frT_m (frT_m (frT_r _) (s := 24 + 5) (by omega) hB1) (s := 24 + 7) (by omega) hB2) (s := 24 + 6) (by omega) hB3), (frT_m (frT_m (frT_m (frT_r _) (s := 24 + 5) (by omega) hC1) (s := 24 + 7) (by omega) hC2) (s := 24 + 6) (by omega) hC3), rfl⟩
  rw [alb_2 (fun k hk => ?_)]
  simp only [cpy_lt hk, mxd_0]
  have q := th_db hca (B := Lo b) (B' := Hi b) (C := Lo c) (C' := Hi c) (M := cpy n (fun k => mxd (cpy n (Lo b) (Lo 7) k) (Lo c k) (nI 0)) (cpy n (Lo b) (Lo 7))) (M' := cpy n (fun k => mxd (cpy n (Hi b) (Hi 7) k) (Hi c k) (nI 0)) (cpy n (Hi b) (Hi 7))) (fun i hi => by simp only [cpy_lt hi, mxd_0, and_self]) k hk
  exact (sbz_e (fun j _ => q j)).symm
set_option maxHeartbeats 1000000 in
set_option maxRecDepth 20000 in
theorem c_distBehind {a b c : Nat} (ha : a < 3) (hb : b < 3) (hc : c < 3) {n : Nat} (hn : n ≤ 80) (hEa : El a = nI n) (hEb : El b = nI n) (hEc : El c = nI n) (hca : cln (Lo a) (Hi a) n) (hcb : cln (Lo b) (Hi b) n) (hcc : cln (Lo c) (Hi c) n) : zz_C mX2_distributesBehind 5 0 0 [.ref 51, .ref a, .ref b, .ref c] (px El Lo Hi BL BH Od Ls nn T) (fun o τ => o = .inl (some (.int (zB true))) ∧ ∃ E F G B C, frR El E ∧ frR Lo F ∧ frR Hi G ∧ frT BL B ∧ frT BH C ∧ τ = px E F G B C Od Ls nn T) := by
  refine zz_start wPX2_distributesBehind rfl rfl (Nat.le_of_ble_eq_true rfl) ?_
  have a5 : a ≠ 5 := by omega
  have a6 : a ≠ 6 := by omega
  have a7 : a ≠ 7 := by omega
  have b5 : b ≠ 5 := by omega
  have b6 : b ≠ 6 := by omega
  have b7 : b ≠ 7 := by omega
  have c5 : c ≠ 5 := by omega
  have c6 : c ≠ 6 := by omega
  have c7 : c ≠ 7 := by omega
  have e57 : (5 : Nat) ≠ 7 := by decide
  have e56 : (5 : Nat) ≠ 6 := by decide
  have e75 : (7 : Nat) ≠ 5 := by decide
  have e76 : (7 : Nat) ≠ 6 := by decide
  have e65 : (6 : Nat) ≠ 5 := by decide
  have e67 : (6 : Nat) ≠ 7 := by decide
  refine zz_aload_n dX2_distributesBehind_0 rfl ?_
  refine zz_get (ci := 2) (j := 3) zz_inX2 rfl zw_f_X2_28 rfl (by decide) dX2_distributesBehind_1 (by omega) px_th rfl ?_
  refine zz_aload_n dX2_distributesBehind_4 rfl ?_
  refine zz_callV0 (ci := 1) (c_take (r := 7) (by omega) (q := a) (by omega) (n := n) (by first | exact hEa | (simp only [up_at, up_up, up_ne _ _ a5, up_ne _ _ a6, up_ne _ _ a7, up_ne _ _ b5, up_ne _ _ b6, up_ne _ _ b7, up_ne _ _ c5, up_ne _ _ c6, up_ne _ _ c7, up_ne _ _ e57, up_ne _ _ e56, up_ne _ _ e75, up_ne _ _ e76, up_ne _ _ e65, up_ne _ _ e67]; exact hEa)) hn) dX2_distributesBehind_5 zw_m_X2_45 wYX1_take wDX1_take rfl (by omega) (px_rel (by omega)) rfl (Nat.le_of_ble_eq_true rfl) (by decide) rfl ?_
  refine zz_aload_n dX2_distributesBehind_8 rfl ?_
  refine zz_get (ci := 2) (j := 3) zz_inX2 rfl zw_f_X2_28 rfl (by decide) dX2_distributesBehind_9 (by omega) px_th rfl ?_
  refine zz_aload_n dX2_distributesBehind_12 rfl ?_
  refine zz_iconst (v := 0) dX2_distributesBehind_13 (by decide) ?_
  refine zz_callV0 (ci := 1) (c_mix (r := 7) (by omega) (q := b) (by omega) (w := 0) (by omega) (n := n) (by first | exact hEa | (simp only [up_at, up_up, up_ne _ _ a5, up_ne _ _ a6, up_ne _ _ a7, up_ne _ _ b5, up_ne _ _ b6, up_ne _ _ b7, up_ne _ _ c5, up_ne _ _ c6, up_ne _ _ c7, up_ne _ _ e57, up_ne _ _ e56, up_ne _ _ e75, up_ne _ _ e76, up_ne _ _ e65, up_ne _ _ e67]; exact hEa)) hn) dX2_distributesBehind_14 zw_m_X2_144 wYX1_mix wDX1_mix rfl (by omega) (px_rel (by omega)) rfl (Nat.le_of_ble_eq_true rfl) (by decide) rfl ?_
  refine zz_aload_n dX2_distributesBehind_17 rfl ?_
  refine zz_get (ci := 2) (j := 1) zz_inX2 rfl zw_f_X2_21 rfl (by decide) dX2_distributesBehind_18 (by omega) px_th rfl ?_
  refine zz_aload_n dX2_distributesBehind_21 rfl ?_
  refine zz_get (ci := 2) (j := 3) zz_inX2 rfl zw_f_X2_28 rfl (by decide) dX2_distributesBehind_22 (by omega) px_th rfl ?_
  refine zz_aload_n dX2_distributesBehind_25 rfl ?_
  refine zz_callV (ci := 1) (c_product (r := 5) (by omega) (a := 7) (by omega) (b := c) (by omega) (by omega) (by omega) hn (by first | exact hEa | (simp only [up_at, up_up, up_ne _ _ a5, up_ne _ _ a6, up_ne _ _ a7, up_ne _ _ b5, up_ne _ _ b6, up_ne _ _ b7, up_ne _ _ c5, up_ne _ _ c6, up_ne _ _ c7, up_ne _ _ e57, up_ne _ _ e56, up_ne _ _ e75, up_ne _ _ e76, up_ne _ _ e65, up_ne _ _ e67]; exact hEa)) (by first | exact hEc | (simp only [up_at, up_up, up_ne _ _ a5, up_ne _ _ a6, up_ne _ _ a7, up_ne _ _ b5, up_ne _ _ b6, up_ne _ _ b7, up_ne _ _ c5, up_ne _ _ c6, up_ne _ _ c7, up_ne _ _ e57, up_ne _ _ e56, up_ne _ _ e75, up_ne _ _ e76, up_ne _ _ e65, up_ne _ _ e67]; exact hEc)) (by first | exact cln_cpy (fun k hk => by simp only [cpy_lt hk, mxd_0]; exact cl2_or (cln_row hca hk) (cln_row hcb hk)) | (simp only [up_at, up_up, up_ne _ _ a5, up_ne _ _ a6, up_ne _ _ a7, up_ne _ _ b5, up_ne _ _ b6, up_ne _ _ b7, up_ne _ _ c5, up_ne _ _ c6, up_ne _ _ c7, up_ne _ _ e57, up_ne _ _ e56, up_ne _ _ e75, up_ne _ _ e76, up_ne _ _ e65, up_ne _ _ e67]; exact cln_cpy (fun k hk => by simp only [cpy_lt hk, mxd_0]; exact cl2_or (cln_row hca hk) (cln_row hcb hk))))) dX2_distributesBehind_26 zw_m_X2_140 wYX1_product wDX1_product rfl (by omega) (px_rel (by omega)) rfl (Nat.le_of_ble_eq_true rfl) (by decide) (by omega) (by omega) rfl ?_ (fun E τ hE => by cases hE.1)
  rintro _ _ ⟨hv, B1, C1, hB1, hC1, rfl⟩
  cases hv
  try simp only [up_at, up_up, up_ne _ _ a5, up_ne _ _ a6, up_ne _ _ a7, up_ne _ _ b5, up_ne _ _ b6, up_ne _ _ b7, up_ne _ _ c5, up_ne _ _ c6, up_ne _ _ c7, up_ne _ _ e57, up_ne _ _ e56, up_ne _ _ e75, up_ne _ _ e76, up_ne _ _ e65, up_ne _ _ e67]
  refine zz_aload_n dX2_distributesBehind_29 rfl ?_
  refine zz_get (ci := 2) (j := 3) zz_inX2 rfl zw_f_X2_28 rfl (by decide) dX2_distributesBehind_30 (by omega) px_th rfl ?_
  refine zz_aload_n dX2_distributesBehind_33 rfl ?_
  refine zz_aload_n dX2_distributesBehind_34 rfl ?_
  refine zz_callV (ci := 1) (c_product (r := 7) (by omega) (a := a) (by omega) (b := c) (by omega) (by omega) (by omega) hn (by first | exact hEa | (simp only [up_at, up_up, up_ne _ _ a5, up_ne _ _ a6, up_ne _ _ a7, up_ne _ _ b5, up_ne _ _ b6, up_ne _ _ b7, up_ne _ _ c5, up_ne _ _ c6, up_ne _ _ c7, up_ne _ _ e57, up_ne _ _ e56, up_ne _ _ e75, up_ne _ _ e76, up_ne _ _ e65, up_ne _ _ e67]; exact hEa)) (by first | exact hEc | (simp only [up_at, up_up, up_ne _ _ a5, up_ne _ _ a6, up_ne _ _ a7, up_ne _ _ b5, up_ne _ _ b6, up_ne _ _ b7, up_ne _ _ c5, up_ne _ _ c6, up_ne _ _ c7, up_ne _ _ e57, up_ne _ _ e56, up_ne _ _ e75, up_ne _ _ e76, up_ne _ _ e65, up_ne _ _ e67]; exact hEc)) (by first | exact hca | (simp only [up_at, up_up, up_ne _ _ a5, up_ne _ _ a6, up_ne _ _ a7, up_ne _ _ b5, up_ne _ _ b6, up_ne _ _ b7, up_ne _ _ c5, up_ne _ _ c6, up_ne _ _ c7, up_ne _ _ e57, up_ne _ _ e56, up_ne _ _ e75, up_ne _ _ e76, up_ne _ _ e65, up_ne _ _ e67]; exact hca))) dX2_distributesBehind_35 zw_m_X2_140 wYX1_product wDX1_product rfl (by omega) (px_rel (by omega)) rfl (Nat.le_of_ble_eq_true rfl) (by decide) (by omega) (by omega) rfl ?_ (fun E τ hE => by cases hE.1)
  rintro _ _ ⟨hv, B2, C2, hB2, hC2, rfl⟩
  cases hv
  try simp only [up_at, up_up, up_ne _ _ a5, up_ne _ _ a6, up_ne _ _ a7, up_ne _ _ b5, up_ne _ _ b6, up_ne _ _ b7, up_ne _ _ c5, up_ne _ _ c6, up_ne _ _ c7, up_ne _ _ e57, up_ne _ _ e56, up_ne _ _ e75, up_ne _ _ e76, up_ne _ _ e65, up_ne _ _ e67]
  refine zz_aload_n dX2_distributesBehind_38 rfl ?_
  refine zz_get (ci := 2) (j := 2) zz_inX2 rfl zw_f_X2_25 rfl (by decide) dX2_distributesBehind_39 (by omega) px_th rfl ?_
  refine zz_aload_n dX2_distributesBehind_42 rfl ?_
  refine zz_aload_n dX2_distributesBehind_43 rfl ?_
  refine zz_callV (ci := 1) (c_product (r := 6) (by omega) (a := b) (by omega) (b := c) (by omega) (by omega) (by omega) hn (by first | exact hEb | (simp only [up_at, up_up, up_ne _ _ a5, up_ne _ _ a6, up_ne _ _ a7, up_ne _ _ b5, up_ne _ _ b6, up_ne _ _ b7, up_ne _ _ c5, up_ne _ _ c6, up_ne _ _ c7, up_ne _ _ e57, up_ne _ _ e56, up_ne _ _ e75, up_ne _ _ e76, up_ne _ _ e65, up_ne _ _ e67]; exact hEb)) (by first | exact hEc | (simp only [up_at, up_up, up_ne _ _ a5, up_ne _ _ a6, up_ne _ _ a7, up_ne _ _ b5, up_ne _ _ b6, up_ne _ _ b7, up_ne _ _ c5, up_ne _ _ c6, up_ne _ _ c7, up_ne _ _ e57, up_ne _ _ e56, up_ne _ _ e75, up_ne _ _ e76, up_ne _ _ e65, up_ne _ _ e67]; exact hEc)) (by first | exact hcb | (simp only [up_at, up_up, up_ne _ _ a5, up_ne _ _ a6, up_ne _ _ a7, up_ne _ _ b5, up_ne _ _ b6, up_ne _ _ b7, up_ne _ _ c5, up_ne _ _ c6, up_ne _ _ c7, up_ne _ _ e57, up_ne _ _ e56, up_ne _ _ e75, up_ne _ _ e76, up_ne _ _ e65, up_ne _ _ e67]; exact hcb))) dX2_distributesBehind_44 zw_m_X2_140 wYX1_product wDX1_product rfl (by omega) (px_rel (by omega)) rfl (Nat.le_of_ble_eq_true rfl) (by decide) (by omega) (by omega) rfl ?_ (fun E τ hE => by cases hE.1)
  rintro _ _ ⟨hv, B3, C3, hB3, hC3, rfl⟩
  cases hv
  try simp only [up_at, up_up, up_ne _ _ a5, up_ne _ _ a6, up_ne _ _ a7, up_ne _ _ b5, up_ne _ _ b6, up_ne _ _ b7, up_ne _ _ c5, up_ne _ _ c6, up_ne _ _ c7, up_ne _ _ e57, up_ne _ _ e56, up_ne _ _ e75, up_ne _ _ e76, up_ne _ _ e65, up_ne _ _ e67]
  refine zz_aload_n dX2_distributesBehind_47 rfl ?_
  refine zz_get (ci := 2) (j := 2) zz_inX2 rfl zw_f_X2_25 rfl (by decide) dX2_distributesBehind_48 (by omega) px_th rfl ?_
  refine zz_aload_n dX2_distributesBehind_51 rfl ?_
  refine zz_get (ci := 2) (j := 3) zz_inX2 rfl zw_f_X2_28 rfl (by decide) dX2_distributesBehind_52 (by omega) px_th rfl ?_
  refine zz_iconst (v := 0) dX2_distributesBehind_55 (by decide) ?_
  refine zz_callV0 (ci := 1) (c_mix (r := 6) (by omega) (q := 7) (by omega) (w := 0) (by omega) (n := n) (by first | exact hEb | (simp only [up_at, up_up, up_ne _ _ a5, up_ne _ _ a6, up_ne _ _ a7, up_ne _ _ b5, up_ne _ _ b6, up_ne _ _ b7, up_ne _ _ c5, up_ne _ _ c6, up_ne _ _ c7, up_ne _ _ e57, up_ne _ _ e56, up_ne _ _ e75, up_ne _ _ e76, up_ne _ _ e65, up_ne _ _ e67]; exact hEb)) hn) dX2_distributesBehind_56 zw_m_X2_144 wYX1_mix wDX1_mix rfl (by omega) (px_rel (by omega)) rfl (Nat.le_of_ble_eq_true rfl) (by decide) rfl ?_
  refine zz_aload_n dX2_distributesBehind_59 rfl ?_
  refine zz_get (ci := 2) (j := 1) zz_inX2 rfl zw_f_X2_21 rfl (by decide) dX2_distributesBehind_60 (by omega) px_th rfl ?_
  refine zz_aload_n dX2_distributesBehind_63 rfl ?_
  refine zz_get (ci := 2) (j := 2) zz_inX2 rfl zw_f_X2_25 rfl (by decide) dX2_distributesBehind_64 (by omega) px_th rfl ?_
  refine zz_callV1 (ci := 1) (c_risLike (r := 5) (by omega) (q := 6) (by omega) (n := n) (by simp only [up_at, up_up, up_ne _ _ a5, up_ne _ _ a6, up_ne _ _ a7, up_ne _ _ b5, up_ne _ _ b6, up_ne _ _ b7, up_ne _ _ c5, up_ne _ _ c6, up_ne _ _ c7, up_ne _ _ e57, up_ne _ _ e56, up_ne _ _ e75, up_ne _ _ e76, up_ne _ _ e65, up_ne _ _ e67]; exact hEa) hn (by simp only [up_at, up_up, up_ne _ _ a5, up_ne _ _ a6, up_ne _ _ a7, up_ne _ _ b5, up_ne _ _ b6, up_ne _ _ b7, up_ne _ _ c5, up_ne _ _ c6, up_ne _ _ c7, up_ne _ _ e57, up_ne _ _ e56, up_ne _ _ e75, up_ne _ _ e76, up_ne _ _ e65, up_ne _ _ e67]; exact hEb)) dX2_distributesBehind_67 zw_m_X2_138 wYX1_isLike wDX1_isLike rfl (by omega) (px_rel (by omega)) rfl (Nat.le_of_ble_eq_true rfl) (by decide) rfl ?_
  refine zz_zret dX2_distributesBehind_70 rfl (by first | rfl | exact zB_nar _) ?_
  simp only [up_at, up_up, up_ne _ _ a5, up_ne _ _ a6, up_ne _ _ a7, up_ne _ _ b5, up_ne _ _ b6, up_ne _ _ b7, up_ne _ _ c5, up_ne _ _ c6, up_ne _ _ c7, up_ne _ _ e57, up_ne _ _ e56, up_ne _ _ e75, up_ne _ _ e76, up_ne _ _ e65, up_ne _ _ e67]
  refine ⟨?_, _, _, _, _, _, (by repeat (first | exact frR_r _ | refine frR_u ?_ (by omega) _)), (by repeat (first | exact frR_r _ | refine frR_u ?_ (by omega) _)), (by repeat (first | exact frR_r _ | refine frR_u ?_ (by omega) _)), (frT_m (frT_m (frT_m (frT_r _) (s := 24 + 5) (by omega) hB1) (s := 24 + 7) (by omega) hB2) (s := 24 + 6) (by omega) hB3), (frT_m (frT_m (frT_m (frT_r _) (s := 24 + 5) (by omega) hC1) (s := 24 + 7) (by omega) hC2) (s := 24 + 6) (by omega) hC3), rfl⟩
  rw [alb_2 (fun k hk => ?_)]
  simp only [cpy_lt hk, mxd_0]
  have q := fun j => th_dh (C := Lo c) (C' := Hi c) (a := Lo a k) (a' := Hi a k) (b := Lo b k) (b' := Hi b k) j
  exact (sbz_e (fun j _ => q j)).symm
end ZZ8
