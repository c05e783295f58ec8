section ZZXI
/-! what the object's store says: n elements, relations R 0 .. R 3, marks mk -/
def cI (n : Nat) (El : Nat → Int32) (Lo Hi : Nat → Nat → Int64) (BL BH : Nat → Int64) (R : Nat → Nat → Nat → Bool) (mk : Nat → Bool) : Prop := (1 ≤ n ∧ n ≤ 80) ∧ (∀ r, r < 4 → El r = nI n ∧ lk (Lo r) (Hi r) n (R r)) ∧ ls (BL 32) (BH 32) n mk
def xS (n : Nat) (R : Nat → Nat → Nat → Bool) (mk : Nat → Bool) (T : zz_St) (σ : zz_St) : Prop := ∃ (El : Nat → Int32) (Lo Hi : Nat → Nat → Int64) (BL BH : Nat → Int64) (Od : Nat → Nat → Int32) (Ls : Nat → Int32), cI n El Lo Hi BL BH R mk ∧ σ = px El Lo Hi BL BH Od Ls (nI n) T
def xQ (n : Nat) (R : Nat → Nat → Nat → Bool) (mk : Nat → Bool) (T : zz_St) (o0 : zz_O) : zz_Q := fun o τ => o = o0 ∧ xS n R mk T τ
theorem xQ_i {n : Nat} {R : Nat → Nat → Nat → Bool} {mk : Nat → Bool} {T : zz_St} {o o0 : zz_O} {El : Nat → Int32} {Lo Hi : Nat → Nat → Int64} {BL BH : Nat → Int64} {Od : Nat → Nat → Int32} {Ls : Nat → Int32} (h1 : o = o0) (h2 : cI n El Lo Hi BL BH R mk) : xQ n R mk T o0 o (px El Lo Hi BL BH Od Ls (nI n) T) := ⟨h1, El, Lo, Hi, BL, BH, Od, Ls, h2, rfl⟩
variable {n : Nat} {El E' : Nat → Int32} {Lo Hi L' H' : Nat → Nat → Int64} {BL BH B' C' : Nat → Int64} {R : Nat → Nat → Nat → Bool} {mk : Nat → Bool}
theorem cI_n (h : cI n El Lo Hi BL BH R mk) : n ≤ 80 := h.1.2
theorem cI_1 (h : cI n El Lo Hi BL BH R mk) : 1 ≤ n := h.1.1
theorem cI_E (h : cI n El Lo Hi BL BH R mk) {r : Nat} (hr : r < 4) : El r = nI n := (h.2.1 r hr).1
theorem cI_R (h : cI n El Lo Hi BL BH R mk) {r : Nat} (hr : r < 4) : lk (Lo r) (Hi r) n (R r) := (h.2.1 r hr).2
theorem cI_m (h : cI n El Lo Hi BL BH R mk) : ls (BL 32) (BH 32) n mk := h.2.2
theorem cI_up (h : cI n El Lo Hi BL BH R mk) {r : Nat} {A B : Nat → Int64} {X : Nat → Nat → Bool} (hA : lk A B n X) (hB : B' 32 = BL 32) (hC : C' 32 = BH 32) : cI n El (va_up Lo r A) (va_up Hi r B) B' C' (va_up R r X) mk := by
  refine ⟨h.1, fun q hq => ⟨cI_E h hq, ?_⟩, by rw [hB, hC]; exact cI_m h⟩
  by_cases e : q = r
  · subst e; rw [up_at, up_at, up_at]; exact hA
  · rw [up_ne _ _ e, up_ne _ _ e, up_ne _ _ e]; exact cI_R h hq
/-- scratch alone has changed -/
theorem cI_f (h : cI n El Lo Hi BL BH R mk) (hE : frR El E') (hL : frR Lo L') (hH : frR Hi H') (hB : B' 32 = BL 32) (hC : C' 32 = BH 32) : cI n E' L' H' B' C' R mk :=
  ⟨h.1, fun q hq => ⟨by rw [hE q (by omega)]; exact cI_E h hq, by rw [hL q (by omega), hH q (by omega)]; exact cI_R h hq⟩, by rw [hB, hC]; exact cI_m h⟩
theorem cI_s (h : cI n El Lo Hi BL BH R mk) (hB : B' 32 = BL 32) (hC : C' 32 = BH 32) : cI n El Lo Hi B' C' R mk := cI_f h (frR_r _) (frR_r _) (frR_r _) hB hC
/-- other scratch relations -/
theorem cI_4 (h : cI n El Lo Hi BL BH R mk) {q : Nat} (hq : 4 ≤ q) (v : Int32) (A B : Nat → Int64) (hB : B' 32 = BL 32) (hC : C' 32 = BH 32) : cI n (va_up El q v) (va_up Lo q A) (va_up Hi q B) B' C' R mk :=
  ⟨h.1, fun r hr => ⟨by rw [up_ne _ _ (by omega)]; exact cI_E h hr, by rw [up_ne _ _ (by omega), up_ne _ _ (by omega)]; exact cI_R h hr⟩, by rw [hB, hC]; exact cI_m h⟩
theorem cI_r (h : cI n El Lo Hi BL BH R mk) {r : Nat} {A B : Nat → Int64} {X : Nat → Nat → Bool} (hr : r < 4) (hE : E' r = nI n) (hE2 : ∀ q, q < 4 → q ≠ r → E' q = El q) (hA : lk A B n X) (hB : B' 32 = BL 32) (hC : C' 32 = BH 32) : cI n E' (va_up Lo r A) (va_up Hi r B) B' C' (va_up R r X) mk := by
  have h2 := cI_up (r := r) h hA hB hC
  refine ⟨h.1, fun q hq => ⟨?_, cI_R h2 hq⟩, cI_m h2⟩
  by_cases e : q = r
  · subst e; exact hE
  · rw [hE2 q hq e]; exact cI_E h hq
theorem cI_mk (h : cI n El Lo Hi BL BH R mk) {m2 : Nat → Bool} (hm : ls (B' 32) (C' 32) n m2) : cI n El Lo Hi B' C' R m2 := ⟨h.1, h.2.1, hm⟩
theorem cI_c (h : cI n El Lo Hi BL BH R mk) {R2 : Nat → Nat → Nat → Bool} {m2 : Nat → Bool} (hR : ∀ r i k, r < 4 → i < n → k < n → R r i k = R2 r i k) (hm : ∀ k, k < n → mk k = m2 k) : cI n El Lo Hi BL BH R2 m2 :=
  ⟨h.1, fun r hr => ⟨cI_E h hr, lk_c (cI_R h hr) (fun i k hi hk => hR r i k hr hi hk)⟩, ls_c (cI_m h) hm⟩
theorem xS_c {T σ : zz_St} (h : xS n R mk T σ) {R2 : Nat → Nat → Nat → Bool} {m2 : Nat → Bool} (hR : ∀ r i k, r < 4 → i < n → k < n → R r i k = R2 r i k) (hm : ∀ k, k < n → mk k = m2 k) : xS n R2 m2 T σ := by
  obtain ⟨El, Lo, Hi, BL, BH, Od, Ls, h1, h2⟩ := h
  exact ⟨El, Lo, Hi, BL, BH, Od, Ls, cI_c h1 hR hm, h2⟩
/-! rows -/
theorem lk_row {L H : Nat → Int64} {R : Nat → Nat → Bool} (h : lk L H n R) {j : Nat} {x y : Int64} {S : Nat → Bool} (hS : ls x y n S) : lk (va_up L j x) (va_up H j y) n (va_up R j S) := lk_c (lk_up h hS) (fun i k _ _ => by
  by_cases e : i = j
  · rw [if_pos e, e, up_at]
  · rw [if_neg e, up_ne _ _ e])
def ptS (S : Nat → Bool) (a e : Nat) (b : Bool) : Nat → Bool := fun c => if a ≤ c ∧ c < e then b else S c
def flS (S : Nat → Bool) (a e : Nat) : Nat → Bool := fun c => if a ≤ c ∧ c < e then !(S c) else S c
theorem ls_put {x y : Int64} {S : Nat → Bool} (h : ls x y n S) {a e : Nat} (he : e ≤ n) (hn : n ≤ 80) (ha : a ≤ 80) (b : Bool) : ls (if b = true then x ||| lwR (nI a) (nI e) else x &&& (lwR (nI a) (nI e) ^^^ -1)) (if b = true then y ||| hgR (nI a) (nI e) else y &&& (hgR (nI a) (nI e) ^^^ -1)) n (ptS S a e b) := by
  have h2 := ls_rng he hn ha
  cases b
  · rw [if_neg (by decide), if_neg (by decide)]
    refine ls_c (ls_wo h h2) (fun k _ => ?_)
    unfold ptS
    by_cases q : a ≤ k ∧ k < e
    · rw [if_pos q, decide_eq_true q.1, decide_eq_true q.2]; simp
    · rw [if_neg q, show (decide (a ≤ k) && decide (k < e)) = false by rw [← Bool.decide_and, decide_eq_false q]]; simp
  · rw [if_pos rfl, if_pos rfl]
    refine ls_c (ls_or h h2) (fun k _ => ?_)
    unfold ptS
    by_cases q : a ≤ k ∧ k < e
    · rw [if_pos q, decide_eq_true q.1, decide_eq_true q.2]; simp
    · rw [if_neg q, show (decide (a ≤ k) && decide (k < e)) = false by rw [← Bool.decide_and, decide_eq_false q]]; simp
theorem ls_flip {x y : Int64} {S : Nat → Bool} (h : ls x y n S) {a e : Nat} (he : e ≤ n) (hn : n ≤ 80) (ha : a ≤ 80) : ls (x ^^^ lwR (nI a) (nI e)) (y ^^^ hgR (nI a) (nI e)) n (flS S a e) := by
  refine ls_c (ls_xor h (ls_rng he hn ha)) (fun k _ => ?_)
  unfold flS
  by_cases q : a ≤ k ∧ k < e
  · rw [if_pos q, decide_eq_true q.1, decide_eq_true q.2]; simp
  · rw [if_neg q, show (decide (a ≤ k) && decide (k < e)) = false by rw [← Bool.decide_and, decide_eq_false q]]; simp
theorem tb_lo0 {x : Int64} {k : Nat} : tb x 0 k = lbit x k := by
  unfold tb lbit
  by_cases h : k < 64
  · rw [if_pos h, decide_eq_true h, Bool.true_and]
  · rw [if_neg h, decide_eq_false h, Bool.false_and, w_0]
theorem ls_low {x : Int64} (hn : n ≤ 80) : ls (x &&& lwR 0 (nI n)) 0 n (lbit x) := fun k hk => by
  have h2 := tb_and x (lwR (nI 0) (nI n)) 0 (hgR (nI 0) (nI n)) k
  have e0 : (0 : Int64) &&& hgR (nI 0) (nI n) = 0 := w_ext (fun j _ => by rw [w_and, w_0, Bool.false_and])
  rw [e0, tb_rng (by omega) (by omega) hk, tb_lo0 (x := x)] at h2
  show tb (x &&& lwR (nI 0) (nI n)) 0 k = _
  rw [h2, show decide (0 ≤ k ∧ k < n) = decide (k < n) from by simp]
  exact Bool.and_comm _ _
/-! a relation out of the reference's bits -/
abbrev rf (f : Nat → Bool) (r : Nat) : Nat → Nat → Bool := fun i k => f (6400 * r + 80 * i + k)
theorem rf_up {g : Nat → Bool} {r i k a c : Nat} (hi : i < 80) (hk : k < 80) (ha : a < 80) (hc : c < 80) (v : Bool) : rf (va_up g (6400 * r + 80 * i + k) v) r a c = if a = i ∧ c = k then v else rf g r a c := by
  by_cases e : a = i ∧ c = k
  · rw [if_pos e, e.1, e.2]; exact up_at _ _ _
  · rw [if_neg e]; exact up_ne _ _ (by omega)
theorem lk_join {L H : Nat → Int64} {g : Nat → Bool} {r : Nat} (h : lk L H n (rf g r)) (hn : n ≤ 80) {i k : Nat} (hi : i < n) (hk : k < n) : lk (va_up L i (L i ||| lwR (nI k) (nI k + 1))) (va_up H i (H i ||| hgR (nI k) (nI k + 1))) n (rf (va_up g (6400 * r + 80 * i + k) true) r) := by
  rw [nI_1]
  refine lk_c (lk_row h (ls_or (h i hi) (ls_rng (a := k) (b := k + 1) (by omega) hn (by omega)))) (fun a c ha hc => ?_)
  rw [rf_up (by omega) (by omega) (by omega) (by omega)]
  by_cases e : a = i
  · subst e
    rw [up_at]
    show (rf g r a c || _) = _
    by_cases q : c = k
    · rw [if_pos ⟨rfl, q⟩, q, decide_eq_true (Nat.le_refl k), decide_eq_true (Nat.lt_succ_self k)]; simp
    · rw [if_neg (fun p => q p.2), show (decide (k ≤ c) && decide (c < k + 1)) = false by rw [← Bool.decide_and, decide_eq_false (by omega)], Bool.or_false]
  · rw [up_ne _ _ e, if_neg (fun p => e p.1)]
/-! arguments that aren't there -/
theorem isR_x {v : Int32} (h : isR v = false) : v < 0 ∨ (¬ v < 0 ∧ (4 : Int32) ≤ v) := by
  rcases pk_ix v (n := 4) (by omega) with h1 | h1 | ⟨r, hr, rfl⟩
  · exact Or.inl h1
  · by_cases q : v < 0
    · exact Or.inl q
    · exact Or.inr ⟨q, h1⟩
  · rw [isR_n r hr] at h; cases h
theorem isE_x {v : Int32} (hn : n ≤ 80) (h : isE n v = false) : v < 0 ∨ (¬ v < 0 ∧ nI n ≤ v) := by
  rcases pk_ix v (n := n) (by omega) with h1 | h1 | ⟨j, hj, rfl⟩
  · exact Or.inl h1
  · by_cases q : v < 0
    · exact Or.inl q
    · exact Or.inr ⟨q, h1⟩
  · rw [isE_n hn hj] at h; cases h
theorem isG_x {v w : Int32} (h : isG n v w = false) : v < 0 ∨ (¬ v < 0 ∧ nI n < w) ∨ (¬ v < 0 ∧ ¬ nI n < w ∧ ¬ v ≤ w) := by
  by_cases a : v < 0
  · exact Or.inl a
  · by_cases b : nI n < w
    · exact Or.inr (Or.inl ⟨a, b⟩)
    · refine Or.inr (Or.inr ⟨a, b, fun c => ?_⟩)
      unfold isG at h
      rw [decide_eq_true (nn0.mpr a), decide_eq_true c, decide_eq_true (Int32.not_lt.mp b)] at h
      cases h
theorem isM_x {v : Int32} (h : isM v = false) : v < 0 ∨ (¬ v < 0 ∧ ¬ v ≤ 200) := by
  by_cases a : v < 0
  · exact Or.inl a
  · refine Or.inr ⟨a, fun c => ?_⟩
    unfold isM at h
    rw [decide_eq_true (nn0.mpr a), decide_eq_true c] at h
    cases h
theorem isR_x3 {v : Int32} (h : isR v = false) : v < 0 ∨ (¬ v < 0 ∧ ¬ v ≤ 3) := by
  by_cases a : v < 0
  · exact Or.inl a
  · refine Or.inr ⟨a, fun c => ?_⟩
    unfold isR at h
    rw [decide_eq_true (nn0.mpr a), decide_eq_true c] at h
    cases h
theorem isW_x {v : Int32} (h : isW v = false) : v < 0 ∨ (¬ v < 0 ∧ ¬ v ≤ 1) := by
  by_cases a : v < 0
  · exact Or.inl a
  · refine Or.inr ⟨a, fun c => ?_⟩
    unfold isW at h
    rw [decide_eq_true (nn0.mpr a), decide_eq_true c] at h
    cases h
theorem isH_x {v : Int32} (h : isH v = false) : v < 0 ∨ (¬ v < 0 ∧ ¬ v ≤ 5) := by
  by_cases a : v < 0
  · exact Or.inl a
  · refine Or.inr ⟨a, fun c => ?_⟩
    unfold isH at h
    rw [decide_eq_true (nn0.mpr a), decide_eq_true c] at h
    cases h
theorem isB_x {v : Int32} (h : isB v = false) : v < 1 ∨ (¬ v < 1 ∧ ¬ v ≤ 80) := by
  by_cases a : v < 1
  · exact Or.inl a
  · refine Or.inr ⟨a, fun c => ?_⟩
    unfold isB at h
    rw [decide_eq_true (Int32.not_lt.mp a), decide_eq_true c] at h
    cases h
end ZZXI
