section ZZLK
/-! two words are a set of elements below n; rows of words are a relation -/
def ls (lo hi : Int64) (n : Nat) (S : Nat → Bool) : Prop := ∀ k, k < 128 → tb lo hi k = (decide (k < n) && S k)
def lk (L H : Nat → Int64) (n : Nat) (R : Nat → Nat → Bool) : Prop := ∀ i, i < n → ls (L i) (H i) n (R i)
theorem ls_at {lo hi : Int64} {n : Nat} {S : Nat → Bool} (h : ls lo hi n S) (hn : n ≤ 80) {k : Nat} (hk : k < n) : tb lo hi k = S k := by
  rw [h k (by omega), decide_eq_true hk, Bool.true_and]
theorem ls_hld {lo hi : Int64} {n : Nat} {S : Nat → Bool} (h : ls lo hi n S) (hn : n ≤ 80) {k : Nat} (hk : k < n) : hld lo hi (nI k) = S k := by
  rw [hld_tb (by omega), ls_at h hn hk]
theorem ls_no {lo hi : Int64} {n : Nat} {S : Nat → Bool} (h : ls lo hi n S) {k : Nat} (hk : n ≤ k) : tb lo hi k = false := by
  by_cases h1 : k < 128
  · rw [h k h1, decide_eq_false (by omega), Bool.false_and]
  · exact tb_big (by omega)
theorem ls_cl2 {lo hi : Int64} {n : Nat} {S : Nat → Bool} (h : ls lo hi n S) : cl2 lo hi n := fun _ hk => ls_no h hk
theorem ls_of {lo hi : Int64} {n : Nat} {S : Nat → Bool} (h1 : cl2 lo hi n) (h2 : ∀ k, k < n → tb lo hi k = S k) : ls lo hi n S := fun k _ => by
  by_cases h : k < n
  · rw [decide_eq_true h, Bool.true_and, h2 k h]
  · rw [decide_eq_false h, Bool.false_and, h1 k (by omega)]
theorem ls_c {lo hi : Int64} {n : Nat} {S S' : Nat → Bool} (h : ls lo hi n S) (h2 : ∀ k, k < n → S k = S' k) : ls lo hi n S' := fun k hk => by
  rw [h k hk]
  by_cases e : k < n
  · rw [h2 k e]
  · rw [decide_eq_false e, Bool.false_and, Bool.false_and]
theorem lk_c {L H : Nat → Int64} {n : Nat} {R R' : Nat → Nat → Bool} (h : lk L H n R) (h2 : ∀ i k, i < n → k < n → R i k = R' i k) : lk L H n R' := fun i hi => ls_c (h i hi) (fun k hk => h2 i k hi hk)
theorem lk_cln {L H : Nat → Int64} {n : Nat} {R : Nat → Nat → Bool} (h : lk L H n R) : cln L H n := fun i hi _ hk => ls_no (h i hi) hk
theorem ls_0 (n : Nat) : ls 0 0 n (fun _ => false) := fun k _ => by rw [tb_0, Bool.and_false]
theorem ls_rng {a b n : Nat} (hb : b ≤ n) (hn : n ≤ 80) (ha : a ≤ 80) : ls (lwR (nI a) (nI b)) (hgR (nI a) (nI b)) n (fun k => decide (a ≤ k) && decide (k < b)) := fun k hk => by
  rw [tb_rng (by omega) (by omega) hk, Bool.eq_iff_iff]
  simp only [Bool.and_eq_true, decide_eq_true_eq]
  omega
theorem ls_and {a b c d : Int64} {n : Nat} {S S' : Nat → Bool} (h1 : ls a b n S) (h2 : ls c d n S') : ls (a &&& c) (b &&& d) n (fun k => S k && S' k) := fun k hk => by
  rw [tb_and, h1 k hk, h2 k hk]
  cases decide (k < n) <;> simp
theorem ls_or {a b c d : Int64} {n : Nat} {S S' : Nat → Bool} (h1 : ls a b n S) (h2 : ls c d n S') : ls (a ||| c) (b ||| d) n (fun k => S k || S' k) := fun k hk => by
  rw [tb_or, h1 k hk, h2 k hk]
  cases decide (k < n) <;> simp
theorem ls_xor {a b c d : Int64} {n : Nat} {S S' : Nat → Bool} (h1 : ls a b n S) (h2 : ls c d n S') : ls (a ^^^ c) (b ^^^ d) n (fun k => S k != S' k) := fun k hk => by
  rw [tb_xor, h1 k hk, h2 k hk]
  cases decide (k < n) <;> simp
theorem ls_wo {a b c d : Int64} {n : Nat} {S S' : Nat → Bool} (h1 : ls a b n S) (h2 : ls c d n S') : ls (a &&& (c ^^^ -1)) (b &&& (d ^^^ -1)) n (fun k => S k && !(S' k)) := fun k hk => by
  rw [tb_and, tb_not _ _ hk, h1 k hk, h2 k hk]
  cases decide (k < n) <;> simp
theorem ls_ext {a b c d : Int64} {n : Nat} {S S' : Nat → Bool} (h1 : ls a b n S) (h2 : ls c d n S') (h : ∀ k, k < n → S k = S' k) : a = c ∧ b = d := tb_ext (fun k hk => by
  rw [ls_c h1 h k hk, h2 k hk])
theorem ls_sbz {a b c d : Int64} {n : Nat} {S S' : Nat → Bool} (hn : n ≤ 80) (h1 : ls a b n S) (h2 : ls c d n S') : sbz a b c d = true ↔ ∀ k, k < n → S k = true → S' k = true := by
  rw [sbz_t]
  constructor
  · intro h k hk hS
    have := h k (by omega) (by rw [ls_at h1 hn hk]; exact hS)
    rwa [ls_at h2 hn hk] at this
  · intro h k hk hS
    rw [h1 k hk] at hS
    have h3 := bo_t hS
    have h4 := of_decide_eq_true h3.1
    rw [ls_at h2 hn h4]
    exact h k h4 h3.2
theorem ls_ig {L H : Nat → Int64} {n : Nat} {R : Nat → Nat → Bool} (hn : n ≤ 80) (hL : lk L H n R) {lo hi : Int64} {S : Nat → Bool} (h : ls lo hi n S) : ls (ig L lo hi) (ig H lo hi) n (fun k => anb (fun j => S j && R j k) n) := by
  refine ls_of (ig_cl (lk_cln hL) (ls_cl2 h)) (fun k hk => ?_)
  rw [Bool.eq_iff_iff, ig_tb, anb_t]
  constructor
  · rintro ⟨j, h1, h2, h3⟩
    have hj : j < n := by
      rcases Nat.lt_or_ge j n with q | q
      · exact q
      · rw [ls_no h q] at h2; cases h2
    rw [ls_at h hn hj] at h2
    rw [ls_at (hL j hj) hn hk] at h3
    exact ⟨j, hj, by rw [h2, h3]; rfl⟩
  · rintro ⟨j, hj, h1⟩
    have h2 := bo_t h1
    exact ⟨j, by omega, by rw [ls_at h hn hj]; exact h2.1, by rw [ls_at (hL j hj) hn hk]; exact h2.2⟩
/-! counts -/
theorem cnt_cut {n : Nat} {S : Nat → Bool} : ∀ {m : Nat}, n ≤ m → cnt (fun k => decide (k < n) && S k) m = cnt S n := by
  intro m
  induction m with
  | zero => intro h; have : n = 0 := by omega
            subst this; rfl
  | succ m ih =>
    intro h
    by_cases e : n = m + 1
    · subst e
      exact cnt_c (fun k hk => by rw [decide_eq_true hk, Bool.true_and])
    · rw [cnt_0, decide_eq_false (show ¬ m < n by omega), Bool.false_and, if_neg (by decide)]
      exact ih (by omega)
theorem ls_szr {lo hi : Int64} {n : Nat} {S : Nat → Bool} (hn : n ≤ 80) (h : ls lo hi n S) : szr lo hi = nI (cnt S n) := by
  unfold szr
  rw [bcn_cnt, bcn_cnt, nI_add]
  congr 1
  have h1 : cnt (tb lo hi) 128 = cnt (fun k => lo.toBitVec.getLsbD k) 64 + cnt (fun k => hi.toBitVec.getLsbD k) 64 := by
    have a1 : cnt (tb lo hi) 64 = cnt (fun k => lo.toBitVec.getLsbD k) 64 := cnt_c (fun k hk => by unfold tb; exact if_pos hk)
    have a2 : cnt (fun k => tb lo hi (64 + k)) 64 = cnt (fun k => hi.toBitVec.getLsbD k) 64 := cnt_c (fun k hk => by unfold tb; rw [if_neg (by omega), Nat.add_sub_cancel_left])
    rw [show (128 : Nat) = 64 + 64 from rfl, cnt_app, a1, a2]
  rw [← h1, cnt_c h, cnt_cut (by omega)]
theorem lk_prs {L H : Nat → Int64} {n : Nat} {R : Nat → Nat → Bool} (hn : n ≤ 80) (h : lk L H n R) : ∀ m, m ≤ n → prs L H m = nI (sm (fun j => cnt (R j) n) m)
  | 0, _ => rfl
  | m + 1, hm => by
    show prs L H m + szr (L m) (H m) = nI (sm _ m + cnt (R m) n)
    rw [lk_prs hn h m (by omega), ls_szr hn (h m (by omega)), nI_add]
theorem lk_ows {L H : Nat → Int64} {n : Nat} {R : Nat → Nat → Bool} (hn : n ≤ 80) (h : lk L H n R) : ∀ m, m ≤ n → ows L H m = nI (cnt (fun k => R k k) m)
  | 0, _ => rfl
  | m + 1, hm => by
    show (if hld (L m) (H m) (nI m) = true then ows L H m + 1 else ows L H m) = _
    rw [ls_hld (h m (by omega)) hn (by omega), lk_ows hn h m (by omega), cnt_0]
    split
    · rw [nI_1]
    · rfl
theorem sm_c {g h : Nat → Nat} : ∀ {n : Nat}, (∀ k, k < n → g k = h k) → sm g n = sm h n
  | 0, _ => rfl
  | n + 1, e => by
    show sm g n + g n = sm h n + h n
    rw [sm_c (n := n) (fun k hk => e k (by omega)), e n (by omega)]
/-! updates of rows -/
theorem lk_up {L H : Nat → Int64} {n : Nat} {R : Nat → Nat → Bool} (h : lk L H n R) {j : Nat} {x y : Int64} {S : Nat → Bool} (hS : ls x y n S) : lk (va_up L j x) (va_up H j y) n (fun i k => if i = j then S k else R i k) := fun i hi => by
  by_cases e : i = j
  · subst e
    rw [up_at, up_at]
    exact ls_c hS (fun k _ => (if_pos rfl).symm)
  · rw [up_ne _ _ e, up_ne _ _ e]
    exact ls_c (h i hi) (fun k _ => (if_neg e).symm)
theorem lk_cpy {L H L' H' : Nat → Int64} {n : Nat} {R : Nat → Nat → Bool} (h : lk L H n R) : lk (cpy n L L') (cpy n H H') n R := fun i hi => by
  rw [cpy_lt hi, cpy_lt hi]
  exact h i hi
/-! closure -/
theorem clP_lk {L H : Nat → Int64} {n : Nat} {R : Nat → Nat → Bool} (hn : n ≤ 80) (h : lk L H n R) : ∀ t, t ≤ n → ∃ A : Nat → Nat → Bool, lk (clP n (L, H) t).1 (clP n (L, H) t).2 n A ∧ (∀ i k, i < n → k < n → R i k = true → A i k = true) ∧ (∀ i k, i < n → k < n → A i k = true → rch R n i k) ∧ ∀ s i k, s < t → i < n → k < n → A i s = true → A s k = true → A i k = true := by
  intro t
  induction t with
  | zero => exact fun _ => ⟨R, h, fun _ _ _ _ q => q, fun i k hi _ q => rch_1 hi q, fun s i k hs => absurd hs (Nat.not_lt_zero s)⟩
  | succ t ih =>
    intro ht
    obtain ⟨A, h1, h2, h3, h4⟩ := ih (by omega)
    have htn : t < n := by omega
    refine ⟨fun i k => A i k || (A i t && A t k), fun i hi => ?_, fun i k hi hk q => (by show (A i k || _) = true; rw [h2 i k hi hk q]; rfl), fun i k hi hk q => ?_, fun s i k hs hi hk q1 q2 => ?_⟩
    · show ls (cpy n _ _ i) (cpy n _ _ i) n _
      rw [cpy_lt hi, cpy_lt hi]
      unfold cst
      rw [ls_hld (h1 i hi) hn htn]
      by_cases e : A i t = true
      · rw [if_pos e, if_pos e]
        exact ls_c (ls_or (h1 i hi) (h1 t htn)) (fun k _ => by show _ = (_ || (A i t && _)); rw [e, Bool.true_and])
      · rw [if_neg e, if_neg e]
        have e2 : A i t = false := by simpa using e
        exact ls_c (h1 i hi) (fun k _ => by show _ = (_ || (A i t && _)); rw [e2, Bool.false_and, Bool.or_false])
    · rcases (Bool.or_eq_true _ _).mp q with q | q
      · exact h3 i k hi hk q
      · exact rch_t (h3 i t hi htn (bo_t q).1) (h3 t k htn hk (bo_t q).2)
    · have hsn : s < n := by omega
      have key : ∀ a b, a < n → b < n → ((A a b || (A a t && A t b)) = true ↔ (A a b = true ∨ (A a t = true ∧ A t b = true))) := fun a b _ _ => by
        rw [Bool.or_eq_true, Bool.and_eq_true]
      replace q1 := (key i s hi hsn).mp q1
      replace q2 := (key s k hsn hk).mp q2
      refine (key i k hi hk).mpr ?_
      by_cases e : s = t
      · subst e
        have p1 : A i s = true := q1.elim id (fun q => q.1)
        have p2 : A s k = true := q2.elim id (fun q => q.2)
        exact Or.inr ⟨p1, p2⟩
      · have hst : s < t := by omega
        rcases q1 with q1 | ⟨q1, q3⟩ <;> rcases q2 with q2 | ⟨q2, q4⟩
        · exact Or.inl (h4 s i k hst hi hk q1 q2)
        · exact Or.inr ⟨h4 s i t hst hi htn q1 q2, q4⟩
        · exact Or.inr ⟨q1, h4 s t k hst htn hk q3 q2⟩
        · exact Or.inr ⟨q1, q4⟩
theorem clP_r {L H : Nat → Int64} {n : Nat} {R : Nat → Nat → Bool} (hn : n ≤ 80) (h : lk L H n R) : lk (clP n (L, H) n).1 (clP n (L, H) n).2 n (rchB R n) := by
  obtain ⟨A, h1, h2, h3, h4⟩ := clP_lk hn h n (Nat.le_refl n)
  refine lk_c h1 (fun i k hi hk => ?_)
  rw [Bool.eq_iff_iff, rchB_t hk]
  refine ⟨h3 i k hi hk, ?_⟩
  rintro ⟨m, hm⟩
  induction m generalizing k with
  | zero => rw [wkb_1 hi] at hm; exact h2 i k hi hk hm
  | succ m ih =>
    obtain ⟨j, hj, q1, q2⟩ := wkb_s.mp hm
    exact h4 j i k hj hi hk (ih j hj q1) (h2 j k hj hk q2)
end ZZLK
