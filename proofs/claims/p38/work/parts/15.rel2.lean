section ZZ2
variable {El : Nat → Int32} {Lo Hi : Nat → Nat → Int64} {BL BH : Nat → Int64} {Od : Nat → Nat → Int32} {Ls : Nat → Int32} {nn : Int32} {T : zz_St}
def orL (S : Nat → Bool) (L : Nat → Int64) : Nat → Int64
  | 0 => 0
  | k + 1 => if S k = true then orL S L k ||| L k else orL S L k
/-- the union of the rows of a set -/
def ig (L : Nat → Int64) (lo hi : Int64) : Int64 := orL (tb lo hi) L 128
theorem orL_no {S : Nat → Bool} {L : Nat → Int64} {e : Nat} (h : ∀ k, e ≤ k → S k = false) : ∀ a, e ≤ a → orL S L a = orL S L e := by
  intro a
  induction a with
  | zero => intro h1; have : e = 0 := by omega
            rw [this]
  | succ a ih =>
    intro h1
    by_cases h2 : e = a + 1
    · rw [h2]
    · show (if S a = true then orL S L a ||| L a else orL S L a) = _
      rw [h a (by omega), if_neg (by simp)]
      exact ih (by omega)
theorem orL_to {S : Nat → Bool} {L : Nat → Int64} {e j : Nat} (h : ∀ k, e ≤ k → k < j → S k = false) : ∀ a, e ≤ a → a ≤ j → orL S L a = orL S L e := by
  intro a
  induction a with
  | zero => intro h1 _; have : e = 0 := by omega
            rw [this]
  | succ a ih =>
    intro h1 h3
    by_cases h2 : e = a + 1
    · rw [h2]
    · show (if S a = true then orL S L a ||| L a else orL S L a) = _
      rw [h a (by omega) (by omega), if_neg (by simp)]
      exact ih (by omega) (by omega)
def cln (L H : Nat → Int64) (n : Nat) : Prop := ∀ i, i < n → ∀ k, n ≤ k → tb (L i) (H i) k = false
def frm (s : Nat) (B B' : Nat → Int64) : Prop := ∀ p, p ≠ s → B' p = B p
theorem frm_r (s : Nat) (B : Nat → Int64) : frm s B B := fun _ _ => rfl
theorem frm_u {s : Nat} {B B' : Nat → Int64} (h : frm s B B') (v : Int64) : frm s B (va_up B' s v) := fun p hp => by rw [up_ne _ _ hp]; exact h p hp
def alb (f : Nat → Bool) : Nat → Bool
  | 0 => true
  | k + 1 => alb f k && f k
theorem alb_t {f : Nat → Bool} : ∀ {n : Nat}, alb f n = true ↔ ∀ k, k < n → f k = true
  | 0 => ⟨fun _ k hk => absurd hk (Nat.not_lt_zero k), fun _ => rfl⟩
  | n + 1 => by
    show (alb f n && f n) = true ↔ _
    rw [Bool.and_eq_true, alb_t]
    exact ⟨fun h k hk => by
      by_cases e : k = n
      · rw [e]; exact h.2
      · exact h.1 k (by omega), fun h => ⟨fun k hk => h k (by omega), h n (by omega)⟩⟩
theorem alb_f {f : Nat → Bool} {n i : Nat} (hi : i < n) (h : f i = false) : alb f n = false := by
  cases e : alb f n
  · rfl
  · rw [alb_t.mp e i hi] at h; cases h
def cnt (f : Nat → Bool) : Nat → Nat
  | 0 => 0
  | k + 1 => if f k = true then cnt f k + 1 else cnt f k
def ff (f : Nat → Bool) : Nat → Nat → Nat
  | 0, i => i
  | m + 1, i => if f i = true then i else ff f m (i + 1)
def sbz (a b c d : Int64) : Bool := decide (a &&& (c ^^^ -1) = 0) && decide (b &&& (d ^^^ -1) = 0)
def cst (A B C D : Nat → Int64) (t : Nat) : Nat → Int64 := fun f => if hld (A f) (B f) (nI t) = true then C f ||| C t else C f
def clP (n : Nat) (P : (Nat → Int64) × (Nat → Int64)) : Nat → (Nat → Int64) × (Nat → Int64)
  | 0 => P
  | t + 1 => (cpy n (cst (clP n P t).1 (clP n P t).2 (clP n P t).1 (clP n P t).1 t) (clP n P t).1, cpy n (cst (clP n P t).1 (clP n P t).2 (clP n P t).2 (clP n P t).2 t) (clP n P t).2)
def rv1 (P : (Nat → Int64) × (Nat → Int64)) (a b : Nat) : (Nat → Int64) × (Nat → Int64) :=
  if hld (P.1 a) (P.2 a) (nI b) = hld (P.1 b) (P.2 b) (nI a) then P
  else (va_up (va_up P.1 a (P.1 a ^^^ lwR (nI b) (nI b + 1))) b ((va_up P.1 a (P.1 a ^^^ lwR (nI b) (nI b + 1))) b ^^^ lwR (nI a) (nI a + 1)),
        va_up (va_up P.2 a (P.2 a ^^^ hgR (nI b) (nI b + 1))) b ((va_up P.2 a (P.2 a ^^^ hgR (nI b) (nI b + 1))) b ^^^ hgR (nI a) (nI a + 1)))
def rvI (P : (Nat → Int64) × (Nat → Int64)) (a : Nat) : Nat → (Nat → Int64) × (Nat → Int64)
  | 0 => P
  | b + 1 => rv1 (rvI P a b) a b
def rvO (P : (Nat → Int64) × (Nat → Int64)) : Nat → (Nat → Int64) × (Nat → Int64)
  | 0 => P
  | a + 1 => rvI (rvO P a) a a
def ftz (w : Int32) (l b : Bool) : Bool := if w = 2 then l == b else if w = 3 then !l || !b else l || b
def ioc (L H : Nat → Int64) (i j : Nat) : Bool := decide (i = j) || (hld (L i) (H i) (nI j) && hld (L j) (H j) (nI i))
set_option maxHeartbeats 1000000 in
set_option maxRecDepth 20000 in
theorem l_imageOf {r : Nat} (hr : r < 8) {n : Nat} (hE : El r = nI n) (hn : n ≤ 80) {p : Nat} (hp : 24 ≤ p ∧ p < 46) {q : Nat} (hq : 24 ≤ q ∧ q < 46) (hc : ∀ k, n ≤ k → tb (BL p) (BH p) k = false) : ∀ (m e pa : Nat), 128 ≤ e + m → e ≤ 128 → pa ≤ e → zz_E mX1_imageOf none 3 0 0 (fun o τ => o = .inl none ∧ τ = px El Lo Hi (va_up BL q (ig (Lo r) (BL p) (BH p))) (va_up BH q (ig (Hi r) (BL p) (BH p))) Od Ls nn T) 15 [(8, .int (nI pa)), (7, .int (lsf (BL p) (BH p) (nI e))), (5, .long (orL (tb (BL p) (BH p)) (Hi r) e)), (3, .long (orL (tb (BL p) (BH p)) (Lo r) e)), (0, .ref r), (1, .ref p), (2, .ref q)] [] (px El Lo Hi BL BH Od Ls nn T) := by
  intro m
  induction m with
  | zero =>
    intro e pa hm he hpa
    rcases lsf_spec (BL p) (BH p) (e := e) (by omega) with ⟨h1, h2⟩ | ⟨j, h1, h2, h3, -⟩
    · rw [h1]
      refine zz_iload dX1_imageOf_15 rfl ?_
      refine zz_aload_n dX1_imageOf_17 rfl ?_
      refine zg_el zw_f_X1_9 dX1_imageOf_18 (by omega) ?_
      refine zz_icmp_ge (tgt := 66) dX1_imageOf_21 (by decide) (fun h21 => ?_) (fun h21 => ?_)
      · refine zz_aload_n dX1_imageOf_66 rfl ?_
        refine zz_lload_n dX1_imageOf_67 rfl ?_
        refine zp_bl zw_f_X1_40 dX1_imageOf_68 (by omega) ?_
        refine zz_aload_n dX1_imageOf_71 rfl ?_
        refine zz_lload dX1_imageOf_72 rfl ?_
        refine zp_bh zw_f_X1_46 dX1_imageOf_74 (by omega) ?_
        refine zz_vret dX1_imageOf_77 rfl ?_
        exact ⟨rfl, by unfold ig; rw [orL_no h2 128 he, orL_no h2 128 he]⟩
      · refine zz_iload dX1_imageOf_24 rfl ?_
        refine zz_iconst (v := (-1)) dX1_imageOf_26 (by decide) ?_
        refine zz_icmp_eq (tgt := 66) dX1_imageOf_27 (by decide) (fun _ => ?_) (fun h => absurd rfl h)
        refine zz_aload_n dX1_imageOf_66 rfl ?_
        refine zz_lload_n dX1_imageOf_67 rfl ?_
        refine zp_bl zw_f_X1_40 dX1_imageOf_68 (by omega) ?_
        refine zz_aload_n dX1_imageOf_71 rfl ?_
        refine zz_lload dX1_imageOf_72 rfl ?_
        refine zp_bh zw_f_X1_46 dX1_imageOf_74 (by omega) ?_
        refine zz_vret dX1_imageOf_77 rfl ?_
        exact ⟨rfl, by unfold ig; rw [orL_no h2 128 he, orL_no h2 128 he]⟩
    · exact absurd (hc j (by omega)) (by rw [h3]; simp)
  | succ m ih =>
    intro e pa hm he hpa
    rcases lsf_spec (BL p) (BH p) (e := e) (by omega) with ⟨h1, h2⟩ | ⟨j, h1, h2, h3, h4, h5⟩
    · rw [h1]
      refine zz_iload dX1_imageOf_15 rfl ?_
      refine zz_aload_n dX1_imageOf_17 rfl ?_
      refine zg_el zw_f_X1_9 dX1_imageOf_18 (by omega) ?_
      refine zz_icmp_ge (tgt := 66) dX1_imageOf_21 (by decide) (fun h21 => ?_) (fun h21 => ?_)
      · refine zz_aload_n dX1_imageOf_66 rfl ?_
        refine zz_lload_n dX1_imageOf_67 rfl ?_
        refine zp_bl zw_f_X1_40 dX1_imageOf_68 (by omega) ?_
        refine zz_aload_n dX1_imageOf_71 rfl ?_
        refine zz_lload dX1_imageOf_72 rfl ?_
        refine zp_bh zw_f_X1_46 dX1_imageOf_74 (by omega) ?_
        refine zz_vret dX1_imageOf_77 rfl ?_
        exact ⟨rfl, by unfold ig; rw [orL_no h2 128 he, orL_no h2 128 he]⟩
      · refine zz_iload dX1_imageOf_24 rfl ?_
        refine zz_iconst (v := (-1)) dX1_imageOf_26 (by decide) ?_
        refine zz_icmp_eq (tgt := 66) dX1_imageOf_27 (by decide) (fun _ => ?_) (fun h => absurd rfl h)
        refine zz_aload_n dX1_imageOf_66 rfl ?_
        refine zz_lload_n dX1_imageOf_67 rfl ?_
        refine zp_bl zw_f_X1_40 dX1_imageOf_68 (by omega) ?_
        refine zz_aload_n dX1_imageOf_71 rfl ?_
        refine zz_lload dX1_imageOf_72 rfl ?_
        refine zp_bh zw_f_X1_46 dX1_imageOf_74 (by omega) ?_
        refine zz_vret dX1_imageOf_77 rfl ?_
        exact ⟨rfl, by unfold ig; rw [orL_no h2 128 he, orL_no h2 128 he]⟩
    · have hjn : j < n := by
        rcases Nat.lt_or_ge j n with h | h
        · exact h
        · exact absurd (hc j h) (by rw [h3]; simp)
      rw [h5]
      refine zz_iload dX1_imageOf_15 rfl ?_
      refine zz_aload_n dX1_imageOf_17 rfl ?_
      refine zg_el zw_f_X1_9 dX1_imageOf_18 (by omega) ?_
      refine zz_icmp_ge (tgt := 66) dX1_imageOf_21 (by decide) (fun h => absurd h (by rw [hE]; exact nI_ge (by omega) (by omega))) (fun _ => ?_)
      refine zz_iload dX1_imageOf_24 rfl ?_
      refine zz_iconst (v := (-1)) dX1_imageOf_26 (by decide) ?_
      refine zz_icmp_eq (tgt := 66) dX1_imageOf_27 (by decide) (fun h => absurd (show nI j < 0 by rw [h]; decide) (nI_pos (by omega))) (fun _ => ?_)
      refine zz_lload_n dX1_imageOf_30 rfl ?_
      refine zz_aload_n dX1_imageOf_31 rfl ?_
      refine zz_iload dX1_imageOf_32 rfl ?_
      refine zz_callV1 (ci := 1) (c_lowAt hr (show j < 80 by omega)) dX1_imageOf_34 zw_m_X1_36 wYX1_lowAt wDX1_lowAt rfl (by omega) (px_rel (by omega)) rfl (Nat.le_of_ble_eq_true rfl) (by decide) rfl ?_
      refine zz_lor dX1_imageOf_37 ?_
      refine zz_lstore_n dX1_imageOf_38 (by decide) ?_
      refine zz_lload dX1_imageOf_39 rfl ?_
      refine zz_aload_n dX1_imageOf_41 rfl ?_
      refine zz_iload dX1_imageOf_42 rfl ?_
      refine zz_callV1 (ci := 1) (c_highAt hr (show j < 80 by omega)) dX1_imageOf_44 zw_m_X1_43 wYX1_highAt wDX1_highAt rfl (by omega) (px_rel (by omega)) rfl (Nat.le_of_ble_eq_true rfl) (by decide) rfl ?_
      refine zz_lor dX1_imageOf_47 ?_
      refine zz_lstore dX1_imageOf_48 (by decide) ?_
      refine zz_aload_n dX1_imageOf_50 rfl ?_
      refine zz_iload dX1_imageOf_51 rfl ?_
      refine zz_iconst (v := 1) dX1_imageOf_53 (by decide) ?_
      refine zz_iadd dX1_imageOf_54 ?_
      refine zz_callV1 (ci := 0) (c_leastFrom hp (nI j + 1)) dX1_imageOf_55 zw_m_X1_96 wYX0_leastFrom wDX0_leastFrom rfl (by omega) (px_bit (by omega)) rfl (Nat.le_of_ble_eq_true rfl) (by decide) rfl ?_
      refine zz_istore dX1_imageOf_58 (by decide) ?_
      refine zz_iinc (v := nI (pa + 1)) dX1_imageOf_60 rfl (nI_1 pa) (by decide) ?_
      refine zz_goto (tgt := 15) dX1_imageOf_63 (by decide) ?_
      have e1 : ∀ L : Nat → Int64, orL (tb (BL p) (BH p)) L (j + 1) = orL (tb (BL p) (BH p)) L e ||| L j := fun L => by
        show (if tb (BL p) (BH p) j = true then orL (tb (BL p) (BH p)) L j ||| L j else _) = _
        rw [if_pos h3, orL_to h4 j h2 (Nat.le_refl j)]
      have h9 := ih (j + 1) (pa + 1) (by omega) (by omega) (by omega)
      rw [e1, e1, (nI_1 j).symm] at h9
      exact h9
set_option maxHeartbeats 1000000 in
set_option maxRecDepth 20000 in
theorem c_imageOf {r : Nat} (hr : r < 8) {n : Nat} (hE : El r = nI n) (hn : n ≤ 80) {p : Nat} (hp : 24 ≤ p ∧ p < 46) {q : Nat} (hq : 24 ≤ q ∧ q < 46) (hc : ∀ k, n ≤ k → tb (BL p) (BH p) k = false) : zz_Dt mX1_imageOf 3 0 0 [.ref r, .ref p, .ref q] (px El Lo Hi BL BH Od Ls nn T) (.inl none) (px El Lo Hi (va_up BL q (ig (Lo r) (BL p) (BH p))) (va_up BH q (ig (Hi r) (BL p) (BH p))) Od Ls nn T) := by
  refine zz_start wPX1_imageOf rfl rfl (Nat.le_of_ble_eq_true rfl) ?_
  refine zz_lconst (v := 0) dX1_imageOf_0 (by decide) ?_
  refine zz_lstore_n dX1_imageOf_1 (by decide) ?_
  refine zz_lconst (v := 0) dX1_imageOf_2 (by decide) ?_
  refine zz_lstore dX1_imageOf_3 (by decide) ?_
  refine zz_aload_n dX1_imageOf_5 rfl ?_
  refine zz_iconst (v := 0) dX1_imageOf_6 (by decide) ?_
  refine zz_callV1 (ci := 0) (c_leastFrom hp 0) dX1_imageOf_7 zw_m_X1_96 wYX0_leastFrom wDX0_leastFrom rfl (by omega) (px_bit (by omega)) rfl (Nat.le_of_ble_eq_true rfl) (by decide) rfl ?_
  refine zz_istore dX1_imageOf_10 (by decide) ?_
  refine zz_iconst (v := 0) dX1_imageOf_12 (by decide) ?_
  refine zz_istore dX1_imageOf_13 (by decide) ?_
  exact l_imageOf hr hE hn hp hq hc 128 0 0 (by omega) (by omega) (by omega)
set_option maxHeartbeats 1000000 in
set_option maxRecDepth 20000 in
theorem l_joinOwn {r : Nat} (hr : r < 8) {n : Nat} (hE : El r = nI n) (hn : n ≤ 80) : ∀ (m i : Nat), i + m = n → zz_E mX1_joinOwn none 3 0 0 (fun o τ => o = .inl none ∧ τ = px El (va_up Lo r (cpy n (fun k => Lo r k ||| lwR (nI k) (nI k + 1)) (Lo r))) (va_up Hi r (cpy n (fun k => Hi r k ||| hgR (nI k) (nI k + 1)) (Hi r))) BL BH Od Ls nn T) 2 [(1, .int (nI i)), (0, .ref r)] [] (px El (va_up Lo r (cpy i (fun k => Lo r k ||| lwR (nI k) (nI k + 1)) (Lo r))) (va_up Hi r (cpy i (fun k => Hi r k ||| hgR (nI k) (nI k + 1)) (Hi r))) BL BH Od Ls nn T) := by
  intro m
  induction m with
  | zero =>
    intro i hi
    have hi : i = n := by omega
    subst hi
    refine zz_iload_n dX1_joinOwn_2 rfl ?_
    refine zz_aload_n dX1_joinOwn_3 rfl ?_
    refine zg_el zw_f_X1_9 dX1_joinOwn_4 (by omega) ?_
    refine zz_icmp_ge (tgt := 22) dX1_joinOwn_7 (by decide) (fun _ => ?_) (fun h => absurd (by rw [hE]; exact nI_le (by omega) (by omega)) h)
    refine zz_vret dX1_joinOwn_22 rfl ?_
    exact ⟨rfl, rfl⟩
  | succ m ih =>
    intro i hi
    refine zz_iload_n dX1_joinOwn_2 rfl ?_
    refine zz_aload_n dX1_joinOwn_3 rfl ?_
    refine zg_el zw_f_X1_9 dX1_joinOwn_4 (by omega) ?_
    refine zz_icmp_ge (tgt := 22) dX1_joinOwn_7 (by decide) (fun h => absurd h (by rw [hE]; exact nI_ge (by omega) (by omega))) (fun _ => ?_)
    refine zz_aload_n dX1_joinOwn_10 rfl ?_
    refine zz_iload_n dX1_joinOwn_11 rfl ?_
    refine zz_iload_n dX1_joinOwn_12 rfl ?_
    refine zz_callV0 (ci := 1) (c_join hr (by omega) _) dX1_joinOwn_13 zw_m_X1_59 wYX1_join wDX1_join rfl (by omega) (px_rel (by omega)) rfl (Nat.le_of_ble_eq_true rfl) (by decide) rfl ?_
    refine zz_iinc (v := nI (i + 1)) dX1_joinOwn_16 rfl (nI_1 i) (by decide) ?_
    refine zz_goto (tgt := 2) dX1_joinOwn_19 (by decide) ?_
    have h9 := ih (i + 1) (by omega)
    rw [← cpy_s, ← cpy_s] at h9
    simp only [up_up, up_at, cpy_i]
    exact h9
set_option maxHeartbeats 1000000 in
set_option maxRecDepth 20000 in
theorem c_joinOwn {r : Nat} (hr : r < 8) {n : Nat} (hE : El r = nI n) (hn : n ≤ 80) : zz_Dt mX1_joinOwn 3 0 0 [.ref r] (px El Lo Hi BL BH Od Ls nn T) (.inl none) (px El (va_up Lo r (cpy n (fun k => Lo r k ||| lwR (nI k) (nI k + 1)) (Lo r))) (va_up Hi r (cpy n (fun k => Hi r k ||| hgR (nI k) (nI k + 1)) (Hi r))) BL BH Od Ls nn T) := by
  refine zz_start wPX1_joinOwn rfl rfl (Nat.le_of_ble_eq_true rfl) ?_
  refine zz_iconst (v := 0) dX1_joinOwn_0 (by decide) ?_
  refine zz_istore_n dX1_joinOwn_1 (by decide) ?_
  have h9 := l_joinOwn (Lo := Lo) (Hi := Hi) (BL := BL) (BH := BH) (Od := Od) (Ls := Ls) (nn := nn) (T := T) hr hE hn n 0 (by omega)
  rw [cpy_0, cpy_0, up_self, up_self] at h9
  exact h9
set_option maxHeartbeats 1000000 in
set_option maxRecDepth 20000 in
theorem c_mixed {σ : zz_St} (a b : Int64) {w : Nat} (hw : w < 4) : zz_Dt mX1_mixed 0 0 0 [.long a, .long b, .int (nI w)] σ (.inl (some (.long (mxd a b (nI w))))) σ := by
  refine zz_start wPX1_mixed rfl rfl (Nat.le_of_ble_eq_true rfl) ?_
  rcases (show w = 0 ∨ w = 1 ∨ w = 2 ∨ w = 3 by omega) with rfl | rfl | rfl | rfl
  · refine zz_iload dX1_mixed_0 rfl ?_
    refine zz_tableIn (tgt := 28) dX1_mixed_2 (by decide) (by decide) rfl (by decide) ?_
    refine zz_lload_n dX1_mixed_28 rfl ?_
    refine zz_lload_n dX1_mixed_29 rfl ?_
    refine zz_lor dX1_mixed_30 ?_
    refine zz_lret dX1_mixed_31 rfl ?_
    exact ⟨rfl, rfl⟩
  · refine zz_iload dX1_mixed_0 rfl ?_
    refine zz_tableIn (tgt := 32) dX1_mixed_2 (by decide) (by decide) rfl (by decide) ?_
    refine zz_lload_n dX1_mixed_32 rfl ?_
    refine zz_lload_n dX1_mixed_33 rfl ?_
    refine zz_land dX1_mixed_34 ?_
    refine zz_lret dX1_mixed_35 rfl ?_
    exact ⟨rfl, rfl⟩
  · refine zz_iload dX1_mixed_0 rfl ?_
    refine zz_tableIn (tgt := 36) dX1_mixed_2 (by decide) (by decide) rfl (by decide) ?_
    refine zz_lload_n dX1_mixed_36 rfl ?_
    refine zz_lload_n dX1_mixed_37 rfl ?_
    refine zz_ldc2 dX1_mixed_38 zw_k_X1_81 ?_
    refine zz_lxor dX1_mixed_41 ?_
    refine zz_land dX1_mixed_42 ?_
    refine zz_lret dX1_mixed_43 rfl ?_
    exact ⟨rfl, rfl⟩
  · refine zz_iload dX1_mixed_0 rfl ?_
    refine zz_tableOut (tgt := 44) dX1_mixed_2 (by decide) (by decide) ?_
    refine zz_lload_n dX1_mixed_44 rfl ?_
    refine zz_lload_n dX1_mixed_45 rfl ?_
    refine zz_lxor dX1_mixed_46 ?_
    refine zz_lret dX1_mixed_47 rfl ?_
    exact ⟨rfl, rfl⟩
/-- a row after row of r is mixed with q's -/
theorem mx_s (L : Nat → Nat → Int64) (r q i : Nat) (w : Int32) : va_up (va_up L r (cpy i (fun k => mxd (L r k) (L q k) w) (L r))) r (va_up ((va_up L r (cpy i (fun k => mxd (L r k) (L q k) w) (L r))) r) i (mxd ((va_up L r (cpy i (fun k => mxd (L r k) (L q k) w) (L r))) r i) ((va_up L r (cpy i (fun k => mxd (L r k) (L q k) w) (L r))) q i) w)) = va_up L r (cpy (i + 1) (fun k => mxd (L r k) (L q k) w) (L r)) := by
  have e : (va_up L r (cpy i (fun k => mxd (L r k) (L q k) w) (L r))) q i = L q i := by
    by_cases h : q = r
    · subst h; rw [up_at, cpy_i]
    · rw [up_ne _ _ h]
  rw [e, up_up, up_at, cpy_i, ← cpy_s]
set_option maxHeartbeats 1000000 in
set_option maxRecDepth 20000 in
theorem l_mix {r : Nat} (hr : r < 8) {q : Nat} (hq : q < 8) {w : Nat} (hw : w < 4) {n : Nat} (hE : El r = nI n) (hn : n ≤ 80) : ∀ (m i : Nat), i + m = n → zz_E mX1_mix none 1 0 0 (fun o τ => o = .inl none ∧ τ = px El (va_up Lo r (cpy n (fun k => mxd (Lo r k) (Lo q k) (nI w)) (Lo r))) (va_up Hi r (cpy n (fun k => mxd (Hi r k) (Hi q k) (nI w)) (Hi r))) BL BH Od Ls nn T) 2 [(3, .int (nI i)), (0, .ref r), (1, .ref q), (2, .int (nI w))] [] (px El (va_up Lo r (cpy i (fun k => mxd (Lo r k) (Lo q k) (nI w)) (Lo r))) (va_up Hi r (cpy i (fun k => mxd (Hi r k) (Hi q k) (nI w)) (Hi r))) BL BH Od Ls nn T) := by
  intro m
  induction m with
  | zero =>
    intro i hi
    have hi : i = n := by omega
    subst hi
    refine zz_iload_n dX1_mix_2 rfl ?_
    refine zz_aload_n dX1_mix_3 rfl ?_
    refine zg_el zw_f_X1_9 dX1_mix_4 (by omega) ?_
    refine zz_icmp_ge (tgt := 49) dX1_mix_7 (by decide) (fun _ => ?_) (fun h => absurd (by rw [hE]; exact nI_le (by omega) (by omega)) h)
    refine zz_vret dX1_mix_49 rfl ?_
    exact ⟨rfl, rfl⟩
  | succ m ih =>
    intro i hi
    refine zz_iload_n dX1_mix_2 rfl ?_
    refine zz_aload_n dX1_mix_3 rfl ?_
    refine zg_el zw_f_X1_9 dX1_mix_4 (by omega) ?_
    refine zz_icmp_ge (tgt := 49) dX1_mix_7 (by decide) (fun h => absurd h (by rw [hE]; exact nI_ge (by omega) (by omega))) (fun _ => ?_)
    refine zz_aload_n dX1_mix_10 rfl ?_
    refine zz_iload_n dX1_mix_11 rfl ?_
    refine zz_aload_n dX1_mix_12 rfl ?_
    refine zz_iload_n dX1_mix_13 rfl ?_
    refine zz_callV1 (ci := 1) (c_lowAt hr (by omega)) dX1_mix_14 zw_m_X1_36 wYX1_lowAt wDX1_lowAt rfl (by omega) (px_rel (by omega)) rfl (Nat.le_of_ble_eq_true rfl) (by decide) rfl ?_
    refine zz_aload_n dX1_mix_17 rfl ?_
    refine zz_iload_n dX1_mix_18 rfl ?_
    refine zz_callV1 (ci := 1) (c_lowAt hq (by omega)) dX1_mix_19 zw_m_X1_36 wYX1_lowAt wDX1_lowAt rfl (by omega) (px_rel (by omega)) rfl (Nat.le_of_ble_eq_true rfl) (by decide) rfl ?_
    refine zz_iload_n dX1_mix_22 rfl ?_
    refine zz_callS1 (c_mixed _ _ hw) dX1_mix_23 zw_m_X1_77 wYX1_mixed wDX1_mixed rfl (Nat.le_of_ble_eq_true rfl) (by decide) rfl ?_
    refine zz_aload_n dX1_mix_26 rfl ?_
    refine zz_iload_n dX1_mix_27 rfl ?_
    refine zz_callV1 (ci := 1) (c_highAt hr (by omega)) dX1_mix_28 zw_m_X1_43 wYX1_highAt wDX1_highAt rfl (by omega) (px_rel (by omega)) rfl (Nat.le_of_ble_eq_true rfl) (by decide) rfl ?_
    refine zz_aload_n dX1_mix_31 rfl ?_
    refine zz_iload_n dX1_mix_32 rfl ?_
    refine zz_callV1 (ci := 1) (c_highAt hq (by omega)) dX1_mix_33 zw_m_X1_43 wYX1_highAt wDX1_highAt rfl (by omega) (px_rel (by omega)) rfl (Nat.le_of_ble_eq_true rfl) (by decide) rfl ?_
    refine zz_iload_n dX1_mix_36 rfl ?_
    refine zz_callS1 (c_mixed _ _ hw) dX1_mix_37 zw_m_X1_77 wYX1_mixed wDX1_mixed rfl (Nat.le_of_ble_eq_true rfl) (by decide) rfl ?_
    refine zz_callV0 (ci := 1) (c_putWords hr (by omega) _ _) dX1_mix_40 zw_m_X1_48 wYX1_putWords wDX1_putWords rfl (by omega) (px_rel (by omega)) rfl (Nat.le_of_ble_eq_true rfl) (by decide) rfl ?_
    refine zz_iinc (v := nI (i + 1)) dX1_mix_43 rfl (nI_1 i) (by decide) ?_
    refine zz_goto (tgt := 2) dX1_mix_46 (by decide) ?_
    rw [mx_s, mx_s]
    exact ih (i + 1) (by omega)
set_option maxHeartbeats 1000000 in
set_option maxRecDepth 20000 in
theorem c_mix {r : Nat} (hr : r < 8) {q : Nat} (hq : q < 8) {w : Nat} (hw : w < 4) {n : Nat} (hE : El r = nI n) (hn : n ≤ 80) : zz_Dt mX1_mix 1 0 0 [.ref r, .ref q, .int (nI w)] (px El Lo Hi BL BH Od Ls nn T) (.inl none) (px El (va_up Lo r (cpy n (fun k => mxd (Lo r k) (Lo q k) (nI w)) (Lo r))) (va_up Hi r (cpy n (fun k => mxd (Hi r k) (Hi q k) (nI w)) (Hi r))) BL BH Od Ls nn T) := by
  refine zz_start wPX1_mix rfl rfl (Nat.le_of_ble_eq_true rfl) ?_
  refine zz_iconst (v := 0) dX1_mix_0 (by decide) ?_
  refine zz_istore_n dX1_mix_1 (by decide) ?_
  have h9 := l_mix (Lo := Lo) (Hi := Hi) (BL := BL) (BH := BH) (Od := Od) (Ls := Ls) (nn := nn) (T := T) hr hq hw hE hn n 0 (by omega)
  rw [cpy_0, cpy_0, up_self, up_self] at h9
  exact h9
end ZZ2
