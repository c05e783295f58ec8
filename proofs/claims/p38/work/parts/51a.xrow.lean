section ZZXR
variable {n : Nat}
/-! turned round -/
theorem rv1_lk {P : (Nat → Int64) × (Nat → Int64)} {X : Nat → Nat → Bool} (hn : n ≤ 80) (h : lk P.1 P.2 n X) {a b : Nat} (ha : a < n) (hb : b < a) : lk (rv1 P a b).1 (rv1 P a b).2 n (fun i k => if (i = a ∧ k = b) ∨ (i = b ∧ k = a) then X k i else X i k) := by
  have hbn : b < n := by omega
  unfold rv1
  rw [ls_hld (h a ha) hn hbn, ls_hld (h b hbn) hn ha]
  by_cases e : X a b = X b a
  · rw [if_pos e]
    refine lk_c h (fun i k _ _ => ?_)
    by_cases q : (i = a ∧ k = b) ∨ (i = b ∧ k = a)
    · rw [if_pos q]
      rcases q with ⟨rfl, rfl⟩ | ⟨rfl, rfl⟩
      · exact e
      · exact e.symm
    · rw [if_neg q]
  · rw [if_neg e]
    have h1 := lk_row h (ls_xor (h a ha) (ls_rng (a := b) (b := b + 1) (by omega) hn (by omega))) (j := a)
    have h2 := lk_row h1 (ls_xor (h1 b hbn) (ls_rng (a := a) (b := a + 1) (by omega) hn (by omega))) (j := b)
    rw [nI_1, nI_1]
    refine lk_c h2 (fun i k hi hk => ?_)
    by_cases i1 : i = b
    · subst i1
      rw [up_at, up_ne _ _ (show i ≠ a by omega)]
      by_cases k1 : k = a
      · subst k1
        rw [if_pos (Or.inr ⟨rfl, rfl⟩), decide_eq_true (Nat.le_refl k), decide_eq_true (Nat.lt_succ_self k)]
        revert e
        cases X k i <;> cases X i k <;> decide
      · rw [if_neg (by omega), show (decide (a ≤ k) && decide (k < a + 1)) = false by rw [← Bool.decide_and, decide_eq_false (by omega)]]
        cases X i k <;> rfl
    · rw [up_ne _ _ i1]
      by_cases i2 : i = a
      · subst i2
        rw [up_at]
        by_cases k1 : k = b
        · subst k1
          rw [if_pos (Or.inl ⟨rfl, rfl⟩), decide_eq_true (Nat.le_refl k), decide_eq_true (Nat.lt_succ_self k)]
          revert e
          cases X k i <;> cases X i k <;> decide
        · rw [if_neg (by omega), show (decide (b ≤ k) && decide (k < b + 1)) = false by rw [← Bool.decide_and, decide_eq_false (by omega)]]
          cases X i k <;> rfl
      · rw [up_ne _ _ i2, if_neg (by omega)]
theorem rvI_lk {P : (Nat → Int64) × (Nat → Int64)} {X : Nat → Nat → Bool} (hn : n ≤ 80) (h : lk P.1 P.2 n X) {a : Nat} (ha : a < n) : ∀ b, b ≤ a → lk (rvI P a b).1 (rvI P a b).2 n (fun i k => if (i = a ∧ k < b) ∨ (i < b ∧ k = a) then X k i else X i k)
  | 0, _ => lk_c h (fun i k _ _ => by rw [if_neg (by omega)])
  | b + 1, hb => by
    have ih := rvI_lk hn h ha b (by omega)
    refine lk_c (rv1_lk hn ih ha (show b < a by omega)) (fun i k hi hk => ?_)
    by_cases q : (i = a ∧ k = b) ∨ (i = b ∧ k = a)
    · rw [if_pos q, if_neg (by omega), if_pos (by omega)]
    · rw [if_neg q]
      by_cases q2 : (i = a ∧ k < b) ∨ (i < b ∧ k = a)
      · rw [if_pos q2, if_pos (by omega)]
      · rw [if_neg q2, if_neg (by omega)]
theorem rvO_lk {P : (Nat → Int64) × (Nat → Int64)} {X : Nat → Nat → Bool} (hn : n ≤ 80) (h : lk P.1 P.2 n X) : ∀ a, a ≤ n → lk (rvO P a).1 (rvO P a).2 n (fun i k => if i < a ∧ k < a then X k i else X i k)
  | 0, _ => lk_c h (fun i k _ _ => by rw [if_neg (by omega)])
  | a + 1, ha => by
    have ih := rvO_lk hn h a (by omega)
    refine lk_c (rvI_lk hn ih (show a < n by omega) a (Nat.le_refl a)) (fun i k hi hk => ?_)
    by_cases q : (i = a ∧ k < a) ∨ (i < a ∧ k = a)
    · rw [if_pos q, if_neg (by omega), if_pos (by omega)]
    · rw [if_neg q]
      by_cases q2 : i < a ∧ k < a
      · rw [if_pos q2, if_pos (by omega)]
      · rw [if_neg q2]
        by_cases q3 : i < a + 1 ∧ k < a + 1
        · rw [if_pos q3, show i = k by omega]
        · rw [if_neg q3]
theorem rv_lk {L H : Nat → Int64} {X : Nat → Nat → Bool} (hn : n ≤ 80) (h : lk L H n X) : lk (rvO (L, H) n).1 (rvO (L, H) n).2 n (fun i k => X k i) := lk_c (rvO_lk (P := (L, H)) hn h n (Nat.le_refl n)) (fun i k hi hk => if_pos ⟨hi, hk⟩)
/-! joined -/
theorem ls_mxd {a b c d : Int64} {S S' : Nat → Bool} (h1 : ls a b n S) (h2 : ls c d n S') : ∀ w, w < 4 → ls (mxd a c (nI w)) (mxd b d (nI w)) n (fun k => cmb w (S k) (S' k)) := by
  intro w hw
  rcases (show w = 0 ∨ w = 1 ∨ w = 2 ∨ w = 3 by omega) with rfl | rfl | rfl | rfl
  · exact ls_or h1 h2
  · exact ls_and h1 h2
  · exact ls_wo h1 h2
  · exact ls_xor h1 h2
theorem lk_mxd {A B C D A' B' : Nat → Int64} {X Y : Nat → Nat → Bool} (h1 : lk A B n X) (h2 : lk C D n Y) {w : Nat} (hw : w < 4) : lk (cpy n (fun k => mxd (A k) (C k) (nI w)) A') (cpy n (fun k => mxd (B k) (D k) (nI w)) B') n (fun i k => cmb w (X i k) (Y i k)) := fun i hi => by
  rw [cpy_lt hi, cpy_lt hi]
  exact ls_mxd (h1 i hi) (h2 i hi) w hw
theorem lk_opp {A B A' B' : Nat → Int64} {X : Nat → Nat → Bool} (hn : n ≤ 80) (h1 : lk A B n X) : lk (cpy n (fun k => A k ^^^ lwR 0 (nI n)) A') (cpy n (fun k => B k ^^^ hgR 0 (nI n)) B') n (fun i k => !(X i k)) := fun i hi => by
  rw [cpy_lt hi, cpy_lt hi]
  refine ls_c (ls_flip (h1 i hi) (a := 0) (e := n) (Nat.le_refl n) hn (Nat.zero_le _)) (fun k hk => ?_)
  unfold flS
  rw [if_pos ⟨Nat.zero_le k, hk⟩]
theorem lk_own {A B A' B' : Nat → Int64} {X : Nat → Nat → Bool} (hn : n ≤ 80) (h1 : lk A B n X) : lk (cpy n (fun k => A k ||| lwR (nI k) (nI k + 1)) A') (cpy n (fun k => B k ||| hgR (nI k) (nI k + 1)) B') n (fun i k => X i k || decide (i = k)) := fun i hi => by
  rw [cpy_lt hi, cpy_lt hi, nI_1]
  refine ls_c (ls_or (h1 i hi) (ls_rng (a := i) (b := i + 1) (by omega) hn (by omega))) (fun k hk => ?_)
  congr 1
  rw [← Bool.decide_and]
  exact decide_eq_decide.mpr (by omega)
theorem lk_prod {A B C D A' B' : Nat → Int64} {X Y : Nat → Nat → Bool} (hn : n ≤ 80) (h1 : lk A B n X) (h2 : lk C D n Y) : lk (cpy n (fun k => ig C (A k) (B k)) A') (cpy n (fun k => ig D (A k) (B k)) B') n (fun i k => anb (fun j => X i j && Y j k) n) := fun i hi => by
  rw [cpy_lt hi, cpy_lt hi]
  exact ls_ig hn h2 (h1 i hi)
theorem anb_f {f : Nat → Bool} : anb f n = false ↔ ∀ k, k < n → f k = false := by
  constructor
  · intro h k hk
    cases e : f k
    · rfl
    · rw [anb_t.mpr ⟨k, hk, e⟩] at h; cases h
  · intro h
    cases e : anb f n
    · rfl
    · obtain ⟨k, hk, q⟩ := anb_t.mp e
      rw [h k hk] at q; cases q
theorem lk_cov {A B A' B' : Nat → Int64} {X : Nat → Nat → Bool} (hn : n ≤ 80) (h1 : lk A B n X) : lk (cpy n (fun k => A k &&& (ig A (A k) (B k) ^^^ -1)) A') (cpy n (fun k => B k &&& (ig B (A k) (B k) ^^^ -1)) B') n (cvB X n) := fun i hi => by
  rw [cpy_lt hi, cpy_lt hi]
  refine ls_c (ls_wo (h1 i hi) (ls_ig hn h1 (h1 i hi))) (fun k hk => ?_)
  unfold cvB
  congr 1
  rw [Bool.eq_iff_iff, Bool.not_eq_true', anb_f, alb_t]
  refine forall_congr' (fun j => forall_congr' (fun hj => ?_))
  cases X i j <;> cases X j k <;> decide
/-! words -/
theorem w_one (k j : Nat) (hk : k < 64) (hj : j < 64) : ((1 : Int64) <<< ((nI k).toInt64 &&& 63)).toBitVec.getLsbD j = decide (j = k) := by
  have e : (1 : Int64) <<< ((nI k).toInt64 &&& 63) = lN (2 ^ k) := by
    have := wb_shl 1 hk
    rw [Nat.one_mul] at this
    exact this
  rw [e, wb_tb, BitVec.getLsbD_ofNat, Nat.testBit_two_pow, decide_eq_true hj, Bool.true_and]
  exact decide_eq_decide.mpr ⟨fun h => h.symm, fun h => h.symm⟩
theorem wrd_bit (G : Nat → Bool) : ∀ m, m ≤ 64 → ∀ j, j < 64 → (wrd G m).toBitVec.getLsbD j = (decide (j < m) && G j)
  | 0, _, j, _ => by
    show (0 : Int64).toBitVec.getLsbD j = _
    rw [w_0, decide_eq_false (Nat.not_lt_zero j), Bool.false_and]
  | m + 1, hm, j, hj => by
    have ih := wrd_bit G m (by omega) j hj
    show (if G m = true then wrd G m ||| ((1 : Int64) <<< ((nI m).toInt64 &&& 63)) else wrd G m).toBitVec.getLsbD j = _
    by_cases e : G m = true
    · rw [if_pos e, w_or, ih, w_one m j (by omega) hj]
      by_cases q : j = m
      · subst q; rw [e, decide_eq_true (rfl : j = j), decide_eq_true (Nat.lt_succ_self j)]; simp
      · rw [decide_eq_false q, Bool.or_false]
        congr 1
        exact decide_eq_decide.mpr (by omega)
    · rw [if_neg e, ih]
      by_cases q : j = m
      · subst q
        have : G j = false := by simpa using e
        rw [this, Bool.and_false, Bool.and_false]
      · congr 1
        exact decide_eq_decide.mpr (by omega)
theorem ls_wrd {x y : Int64} {S : Nat → Bool} (h : ls x y n S) {w : Nat} (hw : w < 2) : (if w = 0 then x else y) = wrd (fun k => decide (64 * w + k < n) && S (64 * w + k)) 64 := by
  refine w_ext (fun j hj => ?_)
  rw [wrd_bit _ 64 (Nat.le_refl _) j hj, decide_eq_true hj, Bool.true_and]
  rcases (show w = 0 ∨ w = 1 by omega) with rfl | rfl
  · rw [if_pos rfl, show 64 * 0 + j = j by omega, ← h j (by omega)]
    unfold tb
    rw [if_pos hj]
  · rw [if_neg (by decide), show 64 * 1 + j = 64 + j by omega, ← h (64 + j) (by omega)]
    unfold tb
    rw [if_neg (by omega), show 64 + j - 64 = j by omega]
/-! compared -/
def sbR (n : Nat) (A B : Nat → Nat → Bool) : Bool := alb (fun i => alb (fun k => !(A i k) || B i k) n) n
theorem sbR_t {A B : Nat → Nat → Bool} : sbR n A B = true ↔ ∀ i k, i < n → k < n → A i k = true → B i k = true := by
  unfold sbR
  rw [alb_t]
  constructor
  · intro h i k hi hk q
    have := alb_t.mp (h i hi) k hk
    rwa [q, Bool.not_true, Bool.false_or] at this
  · intro h i hi
    refine alb_t.mpr (fun k hk => ?_)
    cases q : A i k
    · rfl
    · rw [h i k hi hk q]; rfl
theorem lk_sub {L H L' H' : Nat → Int64} {A B : Nat → Nat → Bool} (hn : n ≤ 80) (h1 : lk L H n A) (h2 : lk L' H' n B) : alb (fun k => sbz (L k) (H k) (L' k) (H' k)) n = sbR n A B := by
  rw [Bool.eq_iff_iff, sbR_t, alb_t]
  constructor
  · intro h i k hi hk
    exact (ls_sbz hn (h1 i hi) (h2 i hi)).mp (h i hi) k hk
  · intro h i hi
    exact (ls_sbz hn (h1 i hi) (h2 i hi)).mpr (fun k hk => h i k hi hk)
/-! asked -/
def isV (n : Nat) (X : Nat → Nat → Bool) (w : Nat) : Bool := alb (fun a => alb (fun k => kpV (X a k) (X k a) (anb (fun j => X a j && X j k) n) (decide (a = k)) w) n) n
theorem isV_t {X : Nat → Nat → Bool} {w : Nat} : isV n X w = true ↔ ∀ a k, a < n → k < n → kpV (X a k) (X k a) (anb (fun j => X a j && X j k) n) (decide (a = k)) w = true := by
  unfold isV
  rw [alb_t]
  exact ⟨fun h a k ha hk => alb_t.mp (h a ha) k hk, fun h a ha => alb_t.mpr (fun k hk => h a k ha hk)⟩
theorem is_0 {L H : Nat → Int64} {X : Nat → Nat → Bool} (hn : n ≤ 80) (h : lk L H n X) : decide (ows L H n = nI n) = isV n X 0 := by
  rw [lk_ows hn h n (Nat.le_refl n), Bool.eq_iff_iff, isV_t, decide_eq_true_iff]
  have hc : cnt (fun k => X k k) n ≤ n := cnt_le _ n
  rw [nI_eq (by omega) (by omega)]
  constructor
  · intro e a k ha hk
    show (!(decide (a = k)) || X a k) = true
    by_cases q : a = k
    · subst q
      have := cnt_all (f := fun k => X k k) (n := n) (by omega) a ha
      rw [decide_eq_true rfl]; exact this
    · rw [decide_eq_false q]; rfl
  · intro h2
    refine Nat.le_antisymm hc (Nat.le_of_not_lt (fun c => ?_))
    have : cnt (fun _ => true) n = cnt (fun k => X k k) n := cnt_c (fun k hk => by
      have := h2 k k hk hk
      change (!(decide (k = k)) || X k k) = true at this
      rw [decide_eq_true rfl] at this
      exact this.symm)
    have h3 : ∀ m, cnt (fun _ => true) m = m := by
      intro m
      induction m with
      | zero => rfl
      | succ m ih => rw [cnt_0, if_pos rfl, ih]
    rw [h3] at this
    omega
theorem is_1 {L H : Nat → Int64} {X : Nat → Nat → Bool} (hn : n ≤ 80) (h : lk L H n X) : decide (ows L H n = 0) = isV n X 1 := by
  rw [lk_ows hn h n (Nat.le_refl n), Bool.eq_iff_iff, isV_t, decide_eq_true_iff]
  have hc : cnt (fun k => X k k) n ≤ n := cnt_le _ n
  rw [show (0 : Int32) = nI 0 from rfl, nI_eq (by omega) (by omega)]
  constructor
  · intro e a k ha hk
    show (!(decide (a = k)) || !(X a k)) = true
    by_cases q : a = k
    · subst q
      cases c : X a a
      · simp
      · have := cnt_mono (f := fun i => decide (i = a)) (g := fun k => X k k) (n := n) (fun i _ hi => by rw [of_decide_eq_true hi]; exact c)
        have h1 := cnt_up (f := fun _ => false) (g := fun i => decide (i = a)) (k := a) ha rfl (decide_eq_true rfl) (fun j _ hj => (decide_eq_false hj).symm)
        omega
    · rw [decide_eq_false q]; rfl
  · intro h2
    refine cnt_z (fun k hk => ?_)
    have := h2 k k hk hk
    change (!(decide (k = k)) || !(X k k)) = true at this
    rw [decide_eq_true rfl] at this
    simpa using this
theorem is_e {L H : Nat → Int64} {X : Nat → Nat → Bool} (hn : n ≤ 80) (h : lk L H n X) {w : Nat} (hw : w = 2 ∨ w = 3 ∨ w = 5) : alb (fun a => alb (fun b => ftz (nI w) (hld (L a) (H a) (nI b)) (hld (L b) (H b) (nI a))) a) n = isV n X w := by
  rw [Bool.eq_iff_iff, isV_t, alb_t]
  have key : ∀ x y : Bool, ∀ s : Bool, (ftz (nI w) x y = true ↔ kpV x y s false w = true) ∧ (kpV x y s false w = kpV y x s false w) ∧ kpV x x s true w = true := by
    rcases hw with rfl | rfl | rfl <;> decide
  constructor
  · intro h1 a k ha hk
    rcases Nat.lt_trichotomy a k with q | q | q
    · have := alb_t.mp (h1 k hk) a q
      rw [ls_hld (h k hk) hn ha, ls_hld (h a ha) hn hk] at this
      rw [decide_eq_false (by omega), (key _ _ _).2.1]
      exact ((key _ _ _).1).mp this
    · subst q
      rw [decide_eq_true rfl]
      exact (key _ true _).2.2
    · have := alb_t.mp (h1 a ha) k q
      rw [ls_hld (h a ha) hn hk, ls_hld (h k hk) hn ha] at this
      rw [decide_eq_false (by omega)]
      exact ((key _ _ _).1).mp this
  · intro h1 a ha
    refine alb_t.mpr (fun b hb => ?_)
    have hbn : b < n := by omega
    have := h1 a b ha hbn
    rw [decide_eq_false (by omega)] at this
    rw [ls_hld (h a ha) hn hbn, ls_hld (h b hbn) hn ha]
    exact ((key _ _ _).1).mpr this
theorem is_4 {L H : Nat → Int64} {X : Nat → Nat → Bool} (hn : n ≤ 80) (h : lk L H n X) : alb (fun k => sbz (ig L (L k) (H k)) (ig H (L k) (H k)) (L k) (H k)) n = isV n X 4 := by
  rw [Bool.eq_iff_iff, isV_t, alb_t]
  have key : ∀ x y s e : Bool, (kpV x y s e 4 = true ↔ (s = true → x = true)) := by decide
  constructor
  · intro h1 a k ha hk
    rw [key]
    exact (ls_sbz hn (ls_ig hn h (h a ha)) (h a ha)).mp (h1 a ha) k hk
  · intro h1 a ha
    refine (ls_sbz hn (ls_ig hn h (h a ha)) (h a ha)).mpr (fun k hk => ?_)
    exact (key _ _ _ _).mp (h1 a k ha hk)
/-! beside -/
theorem ls_ups {x y : Int64} {S : Nat → Bool} (hn : n ≤ 80) (h : ls x y n S) {p : Nat} (hp : p < n) : upS S n p (lsf x y (nI p)) := by
  rcases lsf_spec x y (e := p) (by omega) with ⟨q1, q2⟩ | ⟨j, q1, q2, q3, q4, q5⟩
  · exact Or.inl ⟨q1, fun k hk hkn => by rw [← ls_at h hn hkn]; exact q2 k hk⟩
  · have hj : j < n := by
      rcases Nat.lt_or_ge j n with q | q
      · exact q
      · rw [ls_no h q] at q3; cases q3
    exact Or.inr ⟨j, q2, hj, by rw [← ls_at h hn hj]; exact q3, fun k hk hkj => by rw [← ls_at h hn (by omega)]; exact q4 k hk hkj, q5⟩
theorem ls_dns {x y : Int64} {S : Nat → Bool} (hn : n ≤ 80) (h : ls x y n S) {p : Nat} (hp : p < n) : dnS S p (grt x y (p + 1)) := by
  rcases grt_spec x y (p + 1) (by omega) with ⟨q1, q2⟩ | ⟨j, q1, q2, q3, q4⟩
  · exact Or.inl ⟨q1, fun k hk => by rw [← ls_at h hn (by omega)]; exact q2 k (by omega)⟩
  · exact Or.inr ⟨j, by omega, by rw [← ls_at h hn (by omega)]; exact q2, fun k hk hkp => by rw [← ls_at h hn (by omega)]; exact q3 k hk (by omega), q4⟩
theorem upS_c {f g : Nat → Bool} {p : Nat} {v : Int32} (h : upS f n p v) (e : ∀ k, k < n → f k = g k) : upS g n p v := by
  rcases h with ⟨a, b⟩ | ⟨k, a, b, c, d, q⟩
  · exact Or.inl ⟨a, fun k h1 h2 => by rw [← e k h2]; exact b k h1 h2⟩
  · exact Or.inr ⟨k, a, b, by rw [← e k b]; exact c, fun j h1 h2 => by rw [← e j (by omega)]; exact d j h1 h2, q⟩
theorem dnS_c {f g : Nat → Bool} {p : Nat} {v : Int32} (hp : p < n) (h : dnS f p v) (e : ∀ k, k < n → f k = g k) : dnS g p v := by
  rcases h with ⟨a, b⟩ | ⟨k, a, c, d, q⟩
  · exact Or.inl ⟨a, fun k h1 => by rw [← e k (by omega)]; exact b k h1⟩
  · exact Or.inr ⟨k, a, by rw [← e k (by omega)]; exact c, fun j h1 h2 => by rw [← e j (by omega)]; exact d j h1 h2, q⟩
theorem ls_eom {x y : Int64} {S : Nat → Bool} (hn : n ≤ 80) (h : ls x y n S) : grt x y 80 + 1 = nI (eom S n) := by
  have key : ∀ m, m ≤ n → (eom S m = 0 ∧ ∀ k, k < m → S k = false) ∨ ∃ k, k < m ∧ S k = true ∧ (∀ j, k < j → j < m → S j = false) ∧ eom S m = k + 1 := by
    intro m
    induction m with
    | zero => exact fun _ => Or.inl ⟨rfl, fun k hk => absurd hk (Nat.not_lt_zero k)⟩
    | succ m ih =>
      intro hm
      have he : eom S (m + 1) = if S m = true then m + 1 else eom S m := rfl
      by_cases q : S m = true
      · rw [if_pos q] at he
        exact Or.inr ⟨m, Nat.lt_succ_self m, q, fun j h1 h2 => by omega, he⟩
      · rw [if_neg q] at he
        have q2 : S m = false := by simpa using q
        rcases ih (by omega) with ⟨a, b⟩ | ⟨k, a, b, c, d⟩
        · exact Or.inl ⟨by rw [he, a], fun k hk => by
            by_cases e : k = m
            · rw [e, q2]
            · exact b k (by omega)⟩
        · exact Or.inr ⟨k, by omega, b, fun j h1 h2 => by
            by_cases e : j = m
            · rw [e, q2]
            · exact c j h1 (by omega), by rw [he, d]⟩
  rcases grt_spec x y 80 (by omega) with ⟨q1, q2⟩ | ⟨j, q1, q2, q3, q4⟩
  · rcases key n (Nat.le_refl n) with ⟨a, b⟩ | ⟨k, a, b, c, d⟩
    · rw [q1, a]; rfl
    · have := q2 k (by omega)
      rw [ls_at h hn a, b] at this; cases this
  · have hj : j < n := by
      rcases Nat.lt_or_ge j n with q | q
      · exact q
      · rw [ls_no h q] at q2; cases q2
    have q5 : S j = true := by rw [← ls_at h hn hj]; exact q2
    rcases key n (Nat.le_refl n) with ⟨a, b⟩ | ⟨k, a, b, c, d⟩
    · rw [b j hj] at q5; cases q5
    · have : j = k := by
        rcases Nat.lt_trichotomy j k with q | q | q
        · have := q3 k q (by omega)
          rw [ls_at h hn a, b] at this; cases this
        · exact q
        · rw [c j q hj] at q5; cases q5
      rw [q4, d, this, nI_1]
/-! classes -/
theorem ls_lsN {L H : Nat → Int64} {X : Nat → Nat → Bool} (hn : n ≤ 80) (h : lk L H n X) {e : Nat} (he : e < n) : ff (fun a => ioc L H a e) e 0 = lsN X e := ff_c (fun a _ ha => by
  unfold ioc
  rw [decide_eq_false (by omega), Bool.false_or, ls_hld (h a (by omega)) hn he, ls_hld (h e he) hn (by omega)])
end ZZXR
