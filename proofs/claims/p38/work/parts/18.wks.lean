section ZZ5
variable {El : Nat → Int32} {Lo Hi : Nat → Nat → Int64} {BL BH : Nat → Int64} {Od : Nat → Nat → Int32} {Ls : Nat → Int32} {nn : Int32} {T : zz_St}
theorem orL_tb (S : Nat → Bool) (L H : Nat → Int64) (k : Nat) : ∀ a, tb (orL S L a) (orL S H a) k = true ↔ ∃ j, j < a ∧ S j = true ∧ tb (L j) (H j) k = true
  | 0 => by
    show tb 0 0 k = true ↔ _
    rw [tb_0]
    exact ⟨fun h => (by cases h), fun ⟨j, h, _⟩ => absurd h (Nat.not_lt_zero j)⟩
  | a + 1 => by
    show tb (if S a = true then orL S L a ||| L a else orL S L a) (if S a = true then orL S H a ||| H a else orL S H a) k = true ↔ _
    by_cases h : S a = true
    · rw [if_pos h, if_pos h, tb_or, Bool.or_eq_true, orL_tb S L H k a]
      constructor
      · rintro (⟨j, h1, h2, h3⟩ | h1)
        · exact ⟨j, by omega, h2, h3⟩
        · exact ⟨a, by omega, h, h1⟩
      · rintro ⟨j, h1, h2, h3⟩
        by_cases e : j = a
        · subst e; exact Or.inr h3
        · exact Or.inl ⟨j, by omega, h2, h3⟩
    · rw [if_neg h, if_neg h, orL_tb S L H k a]
      constructor
      · rintro ⟨j, h1, h2, h3⟩
        exact ⟨j, by omega, h2, h3⟩
      · rintro ⟨j, h1, h2, h3⟩
        by_cases e : j = a
        · subst e; exact absurd h2 h
        · exact ⟨j, by omega, h2, h3⟩
theorem ig_tb (L H : Nat → Int64) (lo hi : Int64) (k : Nat) : tb (ig L lo hi) (ig H lo hi) k = true ↔ ∃ j, j < 128 ∧ tb lo hi j = true ∧ tb (L j) (H j) k = true := orL_tb _ L H k 128
/-- bits below n alone -/
def cl2 (lo hi : Int64) (n : Nat) : Prop := ∀ k, n ≤ k → tb lo hi k = false
theorem ig_cl {L H : Nat → Int64} {lo hi : Int64} {n : Nat} (hc : cln L H n) (h : cl2 lo hi n) : cl2 (ig L lo hi) (ig H lo hi) n := by
  intro k hk
  cases e : tb (ig L lo hi) (ig H lo hi) k
  · rfl
  · obtain ⟨j, h1, h2, h3⟩ := (ig_tb L H lo hi k).mp e
    rcases Nat.lt_or_ge j n with hj | hj
    · rw [hc j hj k hk] at h3; cases h3
    · rw [h j hj] at h2; cases h2
theorem cl2_and {a b c d : Int64} {n : Nat} (h : cl2 a b n) : cl2 (a &&& c) (b &&& d) n := fun k hk => by rw [tb_and, h k hk]; rfl
theorem cl2_or {a b c d : Int64} {n : Nat} (h : cl2 a b n) (h2 : cl2 c d n) : cl2 (a ||| c) (b ||| d) n := fun k hk => by rw [tb_or, h k hk, h2 k hk]; rfl
theorem cl2_0 (n : Nat) : cl2 0 0 n := fun k _ => tb_0 k
theorem cl2_rng {a n : Nat} (ha : a < 129) (hn : n < 129) : cl2 (lwR (nI a) (nI n)) (hgR (nI a) (nI n)) n := fun k hk => by
  by_cases h : k < 128
  · rw [tb_rng ha hn h]
    exact decide_eq_false (by omega)
  · exact tb_big (by omega)
abbrev q4 : Type := Int64 × Int64 × Int64 × Int64
def gO (L H : Nat → Int64) (s : q4) : q4 := (ig L s.1 s.2.1 &&& (s.2.2.1 ^^^ -1), ig H s.1 s.2.1 &&& (s.2.2.2 ^^^ -1), s.2.2.1 ||| (ig L s.1 s.2.1 &&& (s.2.2.1 ^^^ -1)), s.2.2.2 ||| (ig H s.1 s.2.1 &&& (s.2.2.2 ^^^ -1)))
def gIt (L H : Nat → Int64) (s : q4) : Nat → q4
  | 0 => s
  | m + 1 => gO L H (gIt L H s m)
theorem gIt_cl {L H : Nat → Int64} {s : q4} {n : Nat} (hc : cln L H n) (h : cl2 s.1 s.2.1 n) : ∀ m, cl2 (gIt L H s m).1 (gIt L H s m).2.1 n
  | 0 => h
  | m + 1 => cl2_and (ig_cl hc (gIt_cl hc h m))
theorem ig_00 (L : Nat → Int64) : ig L 0 0 = 0 := by
  have : ∀ a, orL (tb 0 0) L a = 0 := by
    intro a
    induction a with
    | zero => rfl
    | succ a ih =>
      show (if tb 0 0 a = true then _ else orL (tb 0 0) L a) = 0
      rw [tb_0, if_neg (by simp), ih]
  exact this 128
theorem gIt_stop {L H : Nat → Int64} {s : q4} {i : Nat} (h : (gIt L H s i).1 = 0 ∧ (gIt L H s i).2.1 = 0) : ∀ m, i ≤ m → (gIt L H s m).1 = 0 ∧ (gIt L H s m).2.1 = 0 ∧ (gIt L H s m).2.2 = (gIt L H s i).2.2 := by
  intro m
  induction m with
  | zero => intro hm; have : i = 0 := by omega
            subst this; exact ⟨h.1, h.2, rfl⟩
  | succ m ih =>
    intro hm
    by_cases e : i = m + 1
    · subst e; exact ⟨h.1, h.2, rfl⟩
    · obtain ⟨h1, h2, h3⟩ := ih (by omega)
      have z : ∀ x : Int64, 0 &&& x = 0 := fun x => w_ext (fun j _ => by rw [w_and, w_0]; rfl)
      have z2 : ∀ x : Int64, x ||| 0 = x := fun x => w_ext (fun j _ => by rw [w_or, w_0, Bool.or_false])
      refine ⟨?_, ?_, ?_⟩
      · show ig L _ _ &&& _ = 0
        rw [h1, h2, ig_00, z]
      · show ig H _ _ &&& _ = 0
        rw [h1, h2, ig_00, z]
      · show ((_ ||| (ig L _ _ &&& _)), (_ ||| (ig H _ _ &&& _))) = _
        rw [h1, h2, ig_00, ig_00, z, z, z2, z2, ← h3]
/-- the sets of walk w may differ -/
def frW (w : Nat) (B B' : Nat → Int64) : Prop := ∀ p, p < 34 + 5 * w ∨ 39 + 5 * w ≤ p → B' p = B p
theorem frW_r (w : Nat) (B : Nat → Int64) : frW w B B := fun _ _ => rfl
theorem frW_u {w : Nat} {B B' : Nat → Int64} (h : frW w B B') {q : Nat} (hq : 34 + 5 * w ≤ q ∧ q < 39 + 5 * w) (v : Int64) : frW w B (va_up B' q v) := fun p hp => by rw [up_ne _ _ (by omega)]; exact h p hp
def lIt (L H : Nat → Int64) (s : Int64 × Int64) : Nat → Int64 × Int64
  | 0 => s
  | m + 1 => (ig L (lIt L H s m).1 (lIt L H s m).2, ig H (lIt L H s m).1 (lIt L H s m).2)
theorem lIt_cl {L H : Nat → Int64} {s : Int64 × Int64} {n : Nat} (hc : cln L H n) (h : cl2 s.1 s.2 n) : ∀ m, cl2 (lIt L H s m).1 (lIt L H s m).2 n
  | 0 => h
  | m + 1 => ig_cl hc (lIt_cl hc h m)
def emp (s : Int64 × Int64) : Bool := decide (s.1 = 0) && decide (s.2 = 0)
/-- what findOrder leaves, and takes -/
def nxO (L H : Nat → Int64) (s : Int64 × Int64) : Int32 := lsf (s.1 &&& (ig L s.1 s.2 ^^^ -1)) (s.2 &&& (ig H s.1 s.2 ^^^ -1)) 0
def lfO (L H : Nat → Int64) (s : Int64 × Int64) : Nat → Int64 × Int64
  | 0 => s
  | m + 1 => ((lfO L H s m).1 &&& (lwR (nxO L H (lfO L H s m)) (nxO L H (lfO L H s m) + 1) ^^^ -1), (lfO L H s m).2 &&& (hgR (nxO L H (lfO L H s m)) (nxO L H (lfO L H s m) + 1) ^^^ -1))
theorem lfO_cl {L H : Nat → Int64} {s : Int64 × Int64} {n : Nat} (h : cl2 s.1 s.2 n) : ∀ m, cl2 (lfO L H s m).1 (lfO L H s m).2 n
  | 0 => h
  | m + 1 => cl2_and (lfO_cl h m)
theorem ff_at {f : Nat → Bool} : ∀ {m i : Nat}, (∀ k, i ≤ k → k < i + m → f k = false) → ff f m i = i + m
  | 0, i, _ => rfl
  | m + 1, i, h => by
    rw [ff_f (h i (Nat.le_refl i) (by omega)), ff_at (fun k h1 h2 => h k (by omega) (by omega))]
    omega
set_option maxHeartbeats 1000000 in
set_option maxRecDepth 20000 in
theorem c_leave {w : Nat} (hw : w < 2) {r : Nat} (hr : r < 8) {j : Nat} (hj : j < 80) : zz_Dt mX3_leave 2 0 0 [.ref (49 + w), .ref r, .int (nI j)] (px El Lo Hi BL BH Od Ls nn T) (.inl none) (px El Lo Hi (va_up (va_up BL (35 + 5 * w) (Lo r j)) (34 + 5 * w) (Lo r j)) (va_up (va_up BH (35 + 5 * w) (Hi r j)) (34 + 5 * w) (Hi r j)) Od Ls nn T) := by
  refine zz_start wPX3_leave rfl rfl (Nat.le_of_ble_eq_true rfl) ?_
  refine zz_aload_n dX3_leave_0 rfl ?_
  refine zz_iload_n dX3_leave_1 rfl ?_
  refine zz_aload_n dX3_leave_2 rfl ?_
  refine zz_get (ci := 3) (j := 1) zz_inX3 rfl zw_f_X3_18 rfl (by decide) dX3_leave_3 (by omega) (px_wk (by omega)) rfl ?_
  refine zz_callV0 (ci := 1) (c_rowInto hr hj (by omega)) dX3_leave_6 zw_m_X3_60 wYX1_rowInto wDX1_rowInto rfl (by omega) (px_rel (by omega)) rfl (Nat.le_of_ble_eq_true rfl) (by decide) rfl ?_
  refine zz_aload_n dX3_leave_9 rfl ?_
  refine zz_get (ci := 3) (j := 0) zz_inX3 rfl zw_f_X3_12 rfl (by decide) dX3_leave_10 (by omega) (px_wk (by omega)) rfl ?_
  refine zz_aload_n dX3_leave_13 rfl ?_
  refine zz_get (ci := 3) (j := 1) zz_inX3 rfl zw_f_X3_18 rfl (by decide) dX3_leave_14 (by omega) (px_wk (by omega)) rfl ?_
  refine zz_callV0 (ci := 0) (c_become (by omega) (by omega)) dX3_leave_17 zw_m_X3_56 wYX0_become wDX0_become rfl (by omega) (px_bit (by omega)) rfl (Nat.le_of_ble_eq_true rfl) (by decide) rfl ?_
  refine zz_vret dX3_leave_20 rfl ?_
  exact ⟨rfl, by rw [up_at, up_at]⟩
set_option maxHeartbeats 1000000 in
set_option maxRecDepth 20000 in
theorem c_goOn {w : Nat} (hw : w < 2) {r : Nat} (hr : r < 8) {n : Nat} (hE : El r = nI n) (hn : n ≤ 80) (hc : cl2 (BL (35 + 5 * w)) (BH (35 + 5 * w)) n) : zz_Dt mX3_goOn 4 0 0 [.ref (49 + w), .ref r] (px El Lo Hi BL BH Od Ls nn T) (.inl none) (px El Lo Hi (va_up (va_up BL (35 + 5 * w) (gO (Lo r) (Hi r) (BL (35 + 5 * w), BH (35 + 5 * w), BL (34 + 5 * w), BH (34 + 5 * w))).1) (34 + 5 * w) (gO (Lo r) (Hi r) (BL (35 + 5 * w), BH (35 + 5 * w), BL (34 + 5 * w), BH (34 + 5 * w))).2.2.1) (va_up (va_up BH (35 + 5 * w) (gO (Lo r) (Hi r) (BL (35 + 5 * w), BH (35 + 5 * w), BL (34 + 5 * w), BH (34 + 5 * w))).2.1) (34 + 5 * w) (gO (Lo r) (Hi r) (BL (35 + 5 * w), BH (35 + 5 * w), BL (34 + 5 * w), BH (34 + 5 * w))).2.2.2) Od Ls nn T) := by
  refine zz_start wPX3_goOn rfl rfl (Nat.le_of_ble_eq_true rfl) ?_
  refine zz_aload_n dX3_goOn_0 rfl ?_
  refine zz_aload_n dX3_goOn_1 rfl ?_
  refine zz_get (ci := 3) (j := 1) zz_inX3 rfl zw_f_X3_18 rfl (by decide) dX3_goOn_2 (by omega) (px_wk (by omega)) rfl ?_
  refine zz_aload_n dX3_goOn_5 rfl ?_
  refine zz_get (ci := 3) (j := 1) zz_inX3 rfl zw_f_X3_18 rfl (by decide) dX3_goOn_6 (by omega) (px_wk (by omega)) rfl ?_
  refine zz_callV0 (ci := 1) (c_imageOf hr hE hn (p := 35 + 5 * w) (by omega) (q := 35 + 5 * w) (by omega) hc) dX3_goOn_9 zw_m_X3_64 wYX1_imageOf wDX1_imageOf rfl (by omega) (px_rel (by omega)) rfl (Nat.le_of_ble_eq_true rfl) (by decide) rfl ?_
  refine zz_aload_n dX3_goOn_12 rfl ?_
  refine zz_get (ci := 3) (j := 1) zz_inX3 rfl zw_f_X3_18 rfl (by decide) dX3_goOn_13 (by omega) (px_wk (by omega)) rfl ?_
  refine zz_aload_n dX3_goOn_16 rfl ?_
  refine zz_get (ci := 3) (j := 0) zz_inX3 rfl zw_f_X3_12 rfl (by decide) dX3_goOn_17 (by omega) (px_wk (by omega)) rfl ?_
  refine zz_callV0 (ci := 0) (c_remove (by omega) (by omega)) dX3_goOn_20 zw_m_X3_68 wYX0_remove wDX0_remove rfl (by omega) (px_bit (by omega)) rfl (Nat.le_of_ble_eq_true rfl) (by decide) rfl ?_
  refine zz_aload_n dX3_goOn_23 rfl ?_
  refine zz_get (ci := 3) (j := 0) zz_inX3 rfl zw_f_X3_12 rfl (by decide) dX3_goOn_24 (by omega) (px_wk (by omega)) rfl ?_
  refine zz_aload_n dX3_goOn_27 rfl ?_
  refine zz_get (ci := 3) (j := 1) zz_inX3 rfl zw_f_X3_18 rfl (by decide) dX3_goOn_28 (by omega) (px_wk (by omega)) rfl ?_
  refine zz_callV0 (ci := 0) (c_unite (by omega) (by omega)) dX3_goOn_31 zw_m_X3_71 wYX0_unite wDX0_unite rfl (by omega) (px_bit (by omega)) rfl (Nat.le_of_ble_eq_true rfl) (by decide) rfl ?_
  refine zz_vret dX3_goOn_34 rfl ?_
  refine ⟨rfl, ?_⟩
  have e1 : 34 + 5 * w ≠ 35 + 5 * w := by omega
  simp only [up_at, up_up, up_ne _ _ e1, gO]
set_option maxHeartbeats 1000000 in
set_option maxRecDepth 20000 in
theorem l_steps {w : Nat} (hw : w < 2) {r : Nat} (hr : r < 8) {n : Nat} (hE : El r = nI n) (hn : n ≤ 80) (hcl : cln (Lo r) (Hi r) n) {j k : Nat} (hj : j < n) (hk : k < 80) (v : Nat) : ∀ (m i : Nat), i + m = n → ∀ (B C : Nat → Int64), frW w BL B → frW w BH C → (B (35 + 5 * w), C (35 + 5 * w), B (34 + 5 * w), C (34 + 5 * w)) = gIt (Lo r) (Hi r) (Lo r j, Hi r j, Lo r j, Hi r j) i → ff (fun s => hld (gIt (Lo r) (Hi r) (Lo r j, Hi r j, Lo r j, Hi r j) s).1 (gIt (Lo r) (Hi r) (Lo r j, Hi r j, Lo r j, Hi r j) s).2.1 (nI k)) m i = v → zz_E mX3_stepsBetween none 5 0 0 (fun o τ => o = .inl (some (.int (if v = n then -1 else nI (v + 1)))) ∧ ∃ B C, frW w BL B ∧ frW w BH C ∧ τ = px El Lo Hi B C Od Ls nn T) 15 [(5, .int (nI i + 1)), (4, .int (nI n)), (0, .ref (49 + w)), (1, .ref r), (2, .int (nI j)), (3, .int (nI k))] [] (px El Lo Hi B C Od Ls nn T) := by
  intro m
  induction m with
  | zero =>
    intro i hi B C hB hC hat hv
    have hi : i = n := by omega
    subst hi
    have hv : i = v := hv
    subst hv
    refine zz_iload dX3_stepsBetween_15 rfl ?_
    refine zz_iload dX3_stepsBetween_17 rfl ?_
    refine zz_icmp_gt (tgt := 47) dX3_stepsBetween_19 (by decide) (fun _ => ?_) (fun h => absurd (by rw [nI_1]; exact nI_lt (by omega) (by omega)) h)
    refine zz_iconst (v := (-1)) dX3_stepsBetween_47 (by decide) ?_
    refine zz_iret dX3_stepsBetween_48 rfl ?_
    exact ⟨by rw [if_pos rfl], B, C, hB, hC, rfl⟩
  | succ m ih =>
    intro i hi B C hB hC hat hv
    have a1 : B (35 + 5 * w) = (gIt (Lo r) (Hi r) (Lo r j, Hi r j, Lo r j, Hi r j) i).1 := congrArg (fun q : q4 => q.1) hat
    have a2 : C (35 + 5 * w) = (gIt (Lo r) (Hi r) (Lo r j, Hi r j, Lo r j, Hi r j) i).2.1 := congrArg (fun q : q4 => q.2.1) hat
    refine zz_iload dX3_stepsBetween_15 rfl ?_
    refine zz_iload dX3_stepsBetween_17 rfl ?_
    refine zz_icmp_gt (tgt := 47) dX3_stepsBetween_19 (by decide) (fun h => absurd h (by rw [nI_1]; exact nI_nlt (by omega) (by omega))) (fun _ => ?_)
    refine zz_aload_n dX3_stepsBetween_22 rfl ?_
    refine zz_get (ci := 3) (j := 1) zz_inX3 rfl zw_f_X3_18 rfl (by decide) dX3_stepsBetween_23 (by omega) (px_wk (by omega)) rfl ?_
    refine zz_iload_n dX3_stepsBetween_26 rfl ?_
    refine zz_callV1 (ci := 0) (c_holds (by omega) _) dX3_stepsBetween_27 zw_m_X3_44 wYX0_holds wDX0_holds rfl (by omega) (px_bit (by omega)) rfl (Nat.le_of_ble_eq_true rfl) (by decide) rfl ?_
    refine zz_if_eq (tgt := 36) dX3_stepsBetween_30 (by decide) (fun h30 => ?_) (fun h30 => ?_)
    · refine zz_aload_n dX3_stepsBetween_36 rfl ?_
      refine zz_aload_n dX3_stepsBetween_37 rfl ?_
      refine zz_callV0 (ci := 3) (c_goOn hw hr hE hn (by have q := gIt_cl hcl (s := (Lo r j, Hi r j, Lo r j, Hi r j)) (fun k hk => hcl j hj k hk) i; rw [← hat] at q; exact q)) dX3_stepsBetween_38 zw_m_X3_48 wYX3_goOn wDX3_goOn rfl (by omega) (px_wk (by omega)) rfl (Nat.le_of_ble_eq_true rfl) (by decide) rfl ?_
      refine zz_iinc (v := nI (i + 1) + 1) dX3_stepsBetween_41 rfl (by rw [← nI_1 i]; rfl) (by decide) ?_
      refine zz_goto (tgt := 15) dX3_stepsBetween_44 (by decide) ?_
      have e1 : 34 + 5 * w ≠ 35 + 5 * w := by omega
      have e2 : 35 + 5 * w ≠ 34 + 5 * w := by omega
      rw [a1, a2] at h30
      refine ih (i + 1) (by omega) _ _ (frW_u (frW_u hB (by omega) _) (by omega) _) (frW_u (frW_u hC (by omega) _) (by omega) _) ?_ ?_
      · simp only [up_at, up_ne _ _ e1, up_ne _ _ e2, hat]
        rfl
      · rw [← hv, ff_f (zB_0.mp h30)]
    · refine zz_iload dX3_stepsBetween_33 rfl ?_
      refine zz_iret dX3_stepsBetween_35 rfl ?_
      rw [a1, a2] at h30
      have hv : i = v := by rw [← hv, ff_t (f := fun s => hld (gIt (Lo r) (Hi r) (Lo r j, Hi r j, Lo r j, Hi r j) s).1 (gIt (Lo r) (Hi r) (Lo r j, Hi r j, Lo r j, Hi r j) s).2.1 (nI k)) (zB_n.mp h30)]
      subst hv
      exact ⟨by rw [if_neg (by omega), nI_1], B, C, hB, hC, rfl⟩
set_option maxHeartbeats 1000000 in
set_option maxRecDepth 20000 in
theorem c_stepsBetween {w : Nat} (hw : w < 2) {r : Nat} (hr : r < 8) {n : Nat} (hE : El r = nI n) (hn : n ≤ 80) (hcl : cln (Lo r) (Hi r) n) {j k : Nat} (hj : j < n) (hk : k < 80) : zz_C mX3_stepsBetween 5 0 0 [.ref (49 + w), .ref r, .int (nI j), .int (nI k)] (px El Lo Hi BL BH Od Ls nn T) (fun o τ => o = .inl (some (.int (if ff (fun s => hld (gIt (Lo r) (Hi r) (Lo r j, Hi r j, Lo r j, Hi r j) s).1 (gIt (Lo r) (Hi r) (Lo r j, Hi r j, Lo r j, Hi r j) s).2.1 (nI k)) n 0 = n then -1 else nI (ff (fun s => hld (gIt (Lo r) (Hi r) (Lo r j, Hi r j, Lo r j, Hi r j) s).1 (gIt (Lo r) (Hi r) (Lo r j, Hi r j, Lo r j, Hi r j) s).2.1 (nI k)) n 0 + 1)))) ∧ ∃ B C, frW w BL B ∧ frW w BH C ∧ τ = px El Lo Hi B C Od Ls nn T) := by
  refine zz_start wPX3_stepsBetween rfl rfl (Nat.le_of_ble_eq_true rfl) ?_
  refine zz_aload_n dX3_stepsBetween_0 rfl ?_
  refine zz_callV1 (ci := 1) (c_elementsInside hr) dX3_stepsBetween_1 zw_m_X3_34 wYX1_elementsInside wDX1_elementsInside rfl (by omega) (px_rel (by omega)) rfl (Nat.le_of_ble_eq_true rfl) (by decide) rfl ?_
  refine zz_istore dX3_stepsBetween_4 (by decide) ?_
  refine zz_aload_n dX3_stepsBetween_6 rfl ?_
  refine zz_aload_n dX3_stepsBetween_7 rfl ?_
  refine zz_iload_n dX3_stepsBetween_8 rfl ?_
  refine zz_callV0 (ci := 3) (c_leave hw hr (show j < 80 by omega)) dX3_stepsBetween_9 zw_m_X3_40 wYX3_leave wDX3_leave rfl (by omega) (px_wk (by omega)) rfl (Nat.le_of_ble_eq_true rfl) (by decide) rfl ?_
  refine zz_iconst (v := 1) dX3_stepsBetween_12 (by decide) ?_
  refine zz_istore dX3_stepsBetween_13 (by decide) ?_
  rw [hE]
  refine l_steps hw hr hE hn hcl hj hk _ n 0 (by omega) _ _ (frW_u (frW_u (frW_r w BL) (by omega) _) (by omega) _) (frW_u (frW_u (frW_r w BH) (by omega) _) (by omega) _) ?_ rfl
  have e1 : 34 + 5 * w ≠ 35 + 5 * w := by omega
  have e2 : 35 + 5 * w ≠ 34 + 5 * w := by omega
  simp only [up_at, up_ne _ _ e1, up_ne _ _ e2]
  rfl
end ZZ5
