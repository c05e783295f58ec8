section ZZFP
def zf_ok (f : Jvm.FP.Core.Fmt) (d : Jvm.FP.Core.Datum) : Prop := match d with
  | .nan => False
  | .inf _ => True
  | .fin _ c q => c < 2 ^ f.p ∧ q ≤ f.qmax
theorem zf_bound {f : Jvm.FP.Core.Fmt} {s : Bool} {c : Nat} {q : Int} (h : c < 2 ^ f.p) : zf_ok f (Jvm.FP.Core.bound f s c q) := by
  unfold Jvm.FP.Core.bound
  split
  · rename_i h2; exact ⟨h, h2⟩
  · trivial
theorem zf_settle {f : Jvm.FP.Core.Fmt} (hf : f.tails < 2 ^ f.p) {s : Bool} {c : Nat} {q : Int} : zf_ok f (Jvm.FP.Core.settle f s c q) := by
  unfold Jvm.FP.Core.settle
  split
  · rename_i h; exact zf_bound h
  · exact zf_bound hf
theorem zf_ratio {f : Jvm.FP.Core.Fmt} (hf : f.tails < 2 ^ f.p) (hq : f.qmin ≤ f.qmax) {s : Bool} {a b : Nat} {e : Int} : zf_ok f (Jvm.FP.Core.roundRatio f s a b e) := by
  unfold Jvm.FP.Core.roundRatio
  split
  · exact ⟨by have := Nat.two_pow_pos f.p; omega, hq⟩
  · exact zf_settle hf
def zf_fin (f : Jvm.FP.Core.Fmt) (x : Nat) : Bool := match Jvm.FP.Core.decode f x with
  | .fin _ d _ => decide (d ≠ 0)
  | _ => false
def zf_fn0 (f : Jvm.FP.Core.Fmt) (x : Nat) : Bool := match Jvm.FP.Core.decode f x with
  | .fin _ _ _ => true
  | _ => false
theorem zf_quot {f : Jvm.FP.Core.Fmt} (hf : f.tails < 2 ^ f.p) (hq : f.qmin ≤ f.qmax) {x y : Nat} (hx : zf_fn0 f x = true) (hy : zf_fin f y = true) : zf_ok f (Jvm.FP.Core.quotient f (Jvm.FP.Core.decode f x) (Jvm.FP.Core.decode f y)) := by
  unfold zf_fn0 at hx
  unfold zf_fin at hy
  cases h1 : Jvm.FP.Core.decode f x <;> rw [h1] at hx <;> cases h2 : Jvm.FP.Core.decode f y <;> rw [h2] at hy <;> try (cases hx) <;> try (cases hy)
  rename_i a b c d e g
  unfold Jvm.FP.Core.quotient
  simp only
  rw [if_neg (by simpa using hy)]
  exact zf_ratio hf hq
theorem zf_enc64 {d : Jvm.FP.Core.Datum} (h : zf_ok Jvm.FP.Core.b64 d) : ∃ s e t : Nat, s < 2 ∧ Jvm.FP.Core.encode Jvm.FP.Core.b64 d = s * 2 ^ 63 + e * 2 ^ 52 + t ∧ (e < 2047 ∧ t < 2 ^ 52 ∨ e = 2047 ∧ t = 0) := by
  cases d with
  | nan => exact absurd h id
  | inf s => exact ⟨s.toNat, 2047, 0, by cases s <;> decide, by cases s <;> rfl, Or.inr ⟨rfl, rfl⟩⟩
  | fin s c q =>
    obtain ⟨h1, h2⟩ := h
    have h1' : c < 2 ^ 53 := h1
    have h2' : q ≤ 971 := h2
    unfold Jvm.FP.Core.encode
    simp only
    have ht : Jvm.FP.Core.b64.tails = 2 ^ 52 := rfl
    have he : Jvm.FP.Core.b64.exps = 2048 := rfl
    have hm : Jvm.FP.Core.b64.qmin = -1074 := rfl
    rw [ht, hm]
    unfold Jvm.FP.Core.assemble
    rw [ht, he]
    split
    · rename_i h3
      exact ⟨s.toNat, 0, c, by cases s <;> decide, by omega, Or.inl ⟨by omega, h3⟩⟩
    · rename_i h3
      exact ⟨s.toNat, (q - -1074).toNat + 1, c - 2 ^ 52, by cases s <;> decide, by omega, Or.inl ⟨by omega, by omega⟩⟩
theorem zf_n64 {d : Jvm.FP.Core.Datum} (h : zf_ok Jvm.FP.Core.b64 d) : vf_n64 (UInt64.ofNat (Jvm.FP.Core.encode Jvm.FP.Core.b64 d)) := by
  obtain ⟨s, e, t, hs, he, hr⟩ := zf_enc64 h
  rw [he]
  unfold vf_n64
  rw [UInt64.le_iff_toNat_le, UInt64.toNat_and]
  show (UInt64.ofNat (s * 2 ^ 63 + e * 2 ^ 52 + t)).toNat &&& (2 ^ 63 - 1) ≤ 9218868437227405312
  rw [Nat.and_two_pow_sub_one_eq_mod, UInt64.toNat_ofNat']
  omega
theorem zf_enc32 {d : Jvm.FP.Core.Datum} (h : zf_ok Jvm.FP.Core.b32 d) : ∃ s e t : Nat, s < 2 ∧ Jvm.FP.Core.encode Jvm.FP.Core.b32 d = s * 2 ^ 31 + e * 2 ^ 23 + t ∧ (e < 255 ∧ t < 2 ^ 23 ∨ e = 255 ∧ t = 0) := by
  cases d with
  | nan => exact absurd h id
  | inf s => exact ⟨s.toNat, 255, 0, by cases s <;> decide, by cases s <;> rfl, Or.inr ⟨rfl, rfl⟩⟩
  | fin s c q =>
    obtain ⟨h1, h2⟩ := h
    have h1' : c < 2 ^ 24 := h1
    have h2' : q ≤ 104 := h2
    unfold Jvm.FP.Core.encode
    simp only
    have ht : Jvm.FP.Core.b32.tails = 2 ^ 23 := rfl
    have he : Jvm.FP.Core.b32.exps = 256 := rfl
    have hm : Jvm.FP.Core.b32.qmin = -149 := rfl
    rw [ht, hm]
    unfold Jvm.FP.Core.assemble
    rw [ht, he]
    split
    · rename_i h3
      exact ⟨s.toNat, 0, c, by cases s <;> decide, by omega, Or.inl ⟨by omega, h3⟩⟩
    · rename_i h3
      exact ⟨s.toNat, (q - -149).toNat + 1, c - 2 ^ 23, by cases s <;> decide, by omega, Or.inl ⟨by omega, by omega⟩⟩
theorem zf_n32 {d : Jvm.FP.Core.Datum} (h : zf_ok Jvm.FP.Core.b32 d) : vf_n32 (UInt32.ofNat (Jvm.FP.Core.encode Jvm.FP.Core.b32 d)) := by
  obtain ⟨s, e, t, hs, he, hr⟩ := zf_enc32 h
  rw [he]
  unfold vf_n32
  rw [UInt32.le_iff_toNat_le, UInt32.toNat_and]
  show (UInt32.ofNat (s * 2 ^ 31 + e * 2 ^ 23 + t)).toNat &&& (2 ^ 31 - 1) ≤ 2139095040
  rw [Nat.and_two_pow_sub_one_eq_mod, UInt32.toNat_ofNat']
  omega
theorem zf_near (m : Nat) : Jvm.FP.Core.nearest m 1 = m := by
  unfold Jvm.FP.Core.nearest
  rw [Nat.mod_one, if_pos (by decide), Nat.div_one]
theorem zf_lead {i : Nat} (h0 : i ≠ 0) (h : i < 2 ^ 13) : Jvm.FP.Core.leading i 1 ≤ 12 := by
  have h1 : i.log2 < 13 := (Nat.log2_lt h0).mpr h
  have h2 : (1 : Nat).log2 = 0 := by decide
  unfold Jvm.FP.Core.leading
  simp only [h2]
  split <;> omega
theorem zf_unitsD {q : Int} (h : q ≤ 0) : Jvm.FP.Core.unitsDen 1 0 q = 1 := by
  unfold Jvm.FP.Core.unitsDen
  rw [show (q - 0).toNat = 0 by omega]
theorem zf_unitsN {i : Nat} {q : Int} (h0 : i ≠ 0) : Jvm.FP.Core.unitsNum i 0 q ≠ 0 := by
  unfold Jvm.FP.Core.unitsNum
  have := Nat.two_pow_pos (0 - q).toNat
  exact Nat.mul_ne_zero h0 (by omega)
theorem zf_settle0 {f : Jvm.FP.Core.Fmt} {s : Bool} {m : Nat} {q : Int} (ht : f.tails < 2 ^ f.p) (ht0 : f.tails ≠ 0) (hm : m ≠ 0) (hq : q + 1 ≤ f.qmax) : ∃ c r, Jvm.FP.Core.settle f s m q = .fin s c r ∧ c < 2 ^ f.p ∧ r ≤ f.qmax ∧ c ≠ 0 := by
  unfold Jvm.FP.Core.settle Jvm.FP.Core.bound
  split
  · rename_i h
    rw [if_pos (by omega)]
    exact ⟨m, q, rfl, h, by omega, hm⟩
  · first | exact ⟨f.tails, q + 1, rfl, ht, hq, ht0⟩ | (rw [if_pos hq]; exact ⟨f.tails, q + 1, rfl, ht, hq, ht0⟩)
theorem zf_ofI {f : Jvm.FP.Core.Fmt} (hf : f = Jvm.FP.Core.b64 ∨ f = Jvm.FP.Core.b32) {i : Nat} (hi : i < 2 ^ 13) : ∃ c q, Jvm.FP.Core.round f (Jvm.FP.Core.ofInt (i : Int)) = .fin false c q ∧ c < 2 ^ f.p ∧ q ≤ f.qmax ∧ (1 ≤ i → c ≠ 0) := by
  have e1 : Jvm.FP.Core.ofInt (i : Int) = .fin false i 0 := by
    unfold Jvm.FP.Core.ofInt
    rw [decide_eq_false (show ¬ (i : Int) < 0 by omega)]
    rfl
  rw [e1]
  show ∃ c q, Jvm.FP.Core.roundRatio f false i 1 0 = .fin false c q ∧ _
  unfold Jvm.FP.Core.roundRatio
  by_cases h0 : i = 0
  · rw [if_pos h0]
    refine ⟨0, f.qmin, rfl, Nat.two_pow_pos _, ?_, fun h => absurd h0 (by omega)⟩
    rcases hf with rfl | rfl <;> decide
  · rw [if_neg h0]
    have hl := zf_lead h0 hi
    have hq : Jvm.FP.Core.quantum f i 1 0 ≤ -10 := by
      unfold Jvm.FP.Core.quantum
      rcases hf with rfl | rfl
      · show max (-1074) (Jvm.FP.Core.leading i 1 + 0 - ((53 : Int) - 1)) ≤ -10
        omega
      · show max (-149) (Jvm.FP.Core.leading i 1 + 0 - ((24 : Int) - 1)) ≤ -10
        omega
    unfold Jvm.FP.Core.roundAt
    rw [zf_unitsD (by omega), zf_near]
    obtain ⟨c, r, h1, h2, h3, h4⟩ := zf_settle0 (f := f) (s := false) (m := Jvm.FP.Core.unitsNum i 0 (Jvm.FP.Core.quantum f i 1 0)) (q := Jvm.FP.Core.quantum f i 1 0) (by rcases hf with rfl | rfl <;> decide) (by rcases hf with rfl | rfl <;> decide) (zf_unitsN h0) (by
      rcases hf with rfl | rfl
      · show _ ≤ (971 : Int)
        omega
      · show _ ≤ (104 : Int)
        omega)
    exact ⟨c, r, h1, h2, h3, fun _ => h4⟩
theorem zf_decE {f : Jvm.FP.Core.Fmt} {x E : Nat} (h1 : Jvm.FP.Core.fieldE f x = E) (h2 : E ≠ f.exps - 1) : zf_fn0 f x = true ∧ ((E = 0 → Jvm.FP.Core.fieldT f x ≠ 0) → f.tails ≠ 0 → zf_fin f x = true) := by
  unfold zf_fn0 zf_fin Jvm.FP.Core.decode
  rw [h1, if_neg h2]
  by_cases h3 : E = 0
  · rw [if_pos h3]
    exact ⟨rfl, fun h _ => decide_eq_true (h h3)⟩
  · rw [if_neg h3]
    exact ⟨rfl, fun _ h => decide_eq_true (by omega)⟩
theorem zf_de64 {s : Bool} {c : Nat} {q : Int} (h1 : c < 2 ^ 53) (h2 : q ≤ 971) : zf_fn0 Jvm.FP.Core.b64 (UInt64.ofNat (Jvm.FP.Core.encode Jvm.FP.Core.b64 (.fin s c q))).toNat = true ∧ (c ≠ 0 → zf_fin Jvm.FP.Core.b64 (UInt64.ofNat (Jvm.FP.Core.encode Jvm.FP.Core.b64 (.fin s c q))).toNat = true) := by
  have ht : Jvm.FP.Core.b64.tails = 2 ^ 52 := rfl
  have he : Jvm.FP.Core.b64.exps = 2048 := rfl
  have hm : Jvm.FP.Core.b64.qmin = -1074 := rfl
  have hs : s.toNat < 2 := by cases s <;> decide
  obtain ⟨E, t, e, hE, htt, h0⟩ : ∃ E t, Jvm.FP.Core.encode Jvm.FP.Core.b64 (.fin s c q) = s.toNat * 2 ^ 63 + E * 2 ^ 52 + t ∧ E < 2047 ∧ t < 2 ^ 52 ∧ (c ≠ 0 → E = 0 → t ≠ 0) := by
    unfold Jvm.FP.Core.encode
    simp only
    rw [ht, hm]
    unfold Jvm.FP.Core.assemble
    rw [ht, he]
    split
    · rename_i h3
      exact ⟨0, c, by omega, by omega, h3, fun h _ => h⟩
    · rename_i h3
      exact ⟨(q - -1074).toNat + 1, c - 2 ^ 52, by omega, by omega, by omega, fun _ h => by omega⟩
  rw [e, UInt64.toNat_ofNat', Nat.mod_eq_of_lt (by omega)]
  have a1 : Jvm.FP.Core.fieldE Jvm.FP.Core.b64 (s.toNat * 2 ^ 63 + E * 2 ^ 52 + t) = E := by
    show (s.toNat * 2 ^ 63 + E * 2 ^ 52 + t) / 2 ^ 52 % 2048 = E
    omega
  have a2 : Jvm.FP.Core.fieldT Jvm.FP.Core.b64 (s.toNat * 2 ^ 63 + E * 2 ^ 52 + t) = t := by
    show (s.toNat * 2 ^ 63 + E * 2 ^ 52 + t) % 2 ^ 52 = t
    omega
  generalize s.toNat * 2 ^ 63 + E * 2 ^ 52 + t = x at a1 a2
  have h3 := zf_decE (f := Jvm.FP.Core.b64) (x := x) (E := E) a1 (by rw [he]; omega)
  exact ⟨h3.1, fun hc => h3.2 (fun h => by rw [a2]; exact h0 hc h) (by rw [ht]; omega)⟩
theorem zf_de32 {s : Bool} {c : Nat} {q : Int} (h1 : c < 2 ^ 24) (h2 : q ≤ 104) : zf_fn0 Jvm.FP.Core.b32 (UInt32.ofNat (Jvm.FP.Core.encode Jvm.FP.Core.b32 (.fin s c q))).toNat = true ∧ (c ≠ 0 → zf_fin Jvm.FP.Core.b32 (UInt32.ofNat (Jvm.FP.Core.encode Jvm.FP.Core.b32 (.fin s c q))).toNat = true) := by
  have ht : Jvm.FP.Core.b32.tails = 2 ^ 23 := rfl
  have he : Jvm.FP.Core.b32.exps = 256 := rfl
  have hm : Jvm.FP.Core.b32.qmin = -149 := rfl
  have hs : s.toNat < 2 := by cases s <;> decide
  obtain ⟨E, t, e, hE, htt, h0⟩ : ∃ E t, Jvm.FP.Core.encode Jvm.FP.Core.b32 (.fin s c q) = s.toNat * 2 ^ 31 + E * 2 ^ 23 + t ∧ E < 255 ∧ t < 2 ^ 23 ∧ (c ≠ 0 → E = 0 → t ≠ 0) := by
    unfold Jvm.FP.Core.encode
    simp only
    rw [ht, hm]
    unfold Jvm.FP.Core.assemble
    rw [ht, he]
    split
    · rename_i h3
      exact ⟨0, c, by omega, by omega, h3, fun h _ => h⟩
    · rename_i h3
      exact ⟨(q - -149).toNat + 1, c - 2 ^ 23, by omega, by omega, by omega, fun _ h => by omega⟩
  rw [e, UInt32.toNat_ofNat', Nat.mod_eq_of_lt (by omega)]
  have a1 : Jvm.FP.Core.fieldE Jvm.FP.Core.b32 (s.toNat * 2 ^ 31 + E * 2 ^ 23 + t) = E := by
    show (s.toNat * 2 ^ 31 + E * 2 ^ 23 + t) / 2 ^ 23 % 256 = E
    omega
  have a2 : Jvm.FP.Core.fieldT Jvm.FP.Core.b32 (s.toNat * 2 ^ 31 + E * 2 ^ 23 + t) = t := by
    show (s.toNat * 2 ^ 31 + E * 2 ^ 23 + t) % 2 ^ 23 = t
    omega
  generalize s.toNat * 2 ^ 31 + E * 2 ^ 23 + t = x at a1 a2
  have h3 := zf_decE (f := Jvm.FP.Core.b32) (x := x) (E := E) a1 (by rw [he]; omega)
  exact ⟨h3.1, fun hc => h3.2 (fun h => by rw [a2]; exact h0 hc h) (by rw [ht]; omega)⟩
theorem zf_i2d {p : Nat} (h : p < 6401) : zf_fn0 Jvm.FP.Core.b64 (FP.i2d (nI p)).toNat = true ∧ (1 ≤ p → zf_fin Jvm.FP.Core.b64 (FP.i2d (nI p)).toNat = true) := by
  obtain ⟨c, q, h1, h2, h3, h4⟩ := zf_ofI (f := Jvm.FP.Core.b64) (Or.inl rfl) (i := p) (by omega)
  have e : FP.i2d (nI p) = UInt64.ofNat (Jvm.FP.Core.encode Jvm.FP.Core.b64 (.fin false c q)) := by
    show UInt64.ofNat (Jvm.FP.Core.encode Jvm.FP.Core.b64 (Jvm.FP.Core.round Jvm.FP.Core.b64 (Jvm.FP.Core.ofInt (nI p).toInt))) = _
    rw [nI_toInt (by omega), h1]
  rw [e]
  have := zf_de64 (s := false) h2 h3
  exact ⟨this.1, fun hp => this.2 (h4 hp)⟩
theorem zf_i2f {p : Nat} (h : p < 6401) : zf_fn0 Jvm.FP.Core.b32 (FP.i2f (nI p)).toNat = true ∧ (1 ≤ p → zf_fin Jvm.FP.Core.b32 (FP.i2f (nI p)).toNat = true) := by
  obtain ⟨c, q, h1, h2, h3, h4⟩ := zf_ofI (f := Jvm.FP.Core.b32) (Or.inr rfl) (i := p) (by omega)
  have e : FP.i2f (nI p) = UInt32.ofNat (Jvm.FP.Core.encode Jvm.FP.Core.b32 (.fin false c q)) := by
    show UInt32.ofNat (Jvm.FP.Core.encode Jvm.FP.Core.b32 (Jvm.FP.Core.round Jvm.FP.Core.b32 (Jvm.FP.Core.ofInt (nI p).toInt))) = _
    rw [nI_toInt (by omega), h1]
  rw [e]
  have := zf_de32 (s := false) h2 h3
  exact ⟨this.1, fun hp => this.2 (h4 hp)⟩
theorem zf_d {p q : Nat} (hp : p < 6401) (hq : q < 81) (h1 : 1 ≤ q) : zf_ok Jvm.FP.Core.b64 (Jvm.FP.Core.quotient Jvm.FP.Core.b64 (Jvm.FP.Core.decode Jvm.FP.Core.b64 (FP.i2d (nI p)).toNat) (Jvm.FP.Core.decode Jvm.FP.Core.b64 (FP.i2d (nI q)).toNat)) :=
  zf_quot (by decide) (by decide) (zf_i2d hp).1 ((zf_i2d (by omega)).2 h1)
theorem zf_f {p q : Nat} (hp : p < 6401) (hq : q < 6401) (h1 : 1 ≤ q) : zf_ok Jvm.FP.Core.b32 (Jvm.FP.Core.quotient Jvm.FP.Core.b32 (Jvm.FP.Core.decode Jvm.FP.Core.b32 (FP.i2f (nI p)).toNat) (Jvm.FP.Core.decode Jvm.FP.Core.b32 (FP.i2f (nI q)).toNat)) :=
  zf_quot (by decide) (by decide) (zf_i2f hp).1 ((zf_i2f hq).2 h1)
theorem zf_ddiv {p q : Nat} (hp : p < 6401) (hq : q < 81) (h1 : 1 ≤ q) : vf_n64 (FP.ddiv (FP.i2d (nI p)) (FP.i2d (nI q))) := zf_n64 (zf_d hp hq h1)
theorem zf_fdiv {p q : Nat} (hp : p < 6401) (hq : q < 6401) (h1 : 1 ≤ q) : vf_n32 (FP.fdiv (FP.i2f (nI p)) (FP.i2f (nI q))) := zf_n32 (zf_f hp hq h1)
end ZZFP
