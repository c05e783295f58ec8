section ZZJM
/-! both sides' states and answers, op by op -/
def AI (v : Value) (x : Int64) : Prop := ∃ y : Int32, v = .int y ∧ x = y.toInt64
def AB (v : Value) (x : Int64) : Prop := ∃ y : Bool, v = .int (zB y) ∧ x = zL y
def AL (v : Value) (x : Int64) : Prop := v = .long x
def A0 (_ : Value) (_ : Int64) : Prop := True
def D0 (_ : Value) (_ : UInt64) : Prop := True
def DD (v : Value) (x : UInt64) : Prop := v = .double x ∧ FP.dcmp x x = some .eq
def DF (v : Value) (x : UInt64) : Prop := ∃ y : UInt32, v = .float y ∧ x = FP.f2d y ∧ vf_n64 (FP.f2d y) ∧ FP.dcmp x x = some .eq
def TI (v : Value) : Prop := ∃ y : Int32, v = .int y
def TB (v : Value) : Prop := ∃ y : Bool, v = .int (zB y)
def TL (v : Value) : Prop := ∃ y : Int64, v = .long y
def TD (v : Value) : Prop := ∃ y : UInt64, v = .double y
def TF (v : Value) : Prop := ∃ y : UInt32, v = .float y
variable {o : Nat → Int64} {w : Nat → UInt64} {T : zz_St} {MB MB2 : Nat → Nat → Bool} {MI MI2 : Nat → Nat → Int32} {me mt : Int32} {n n2 : Nat} {R R' : Nat → Nat → Nat → Bool} {mk mk' : Nat → Bool} {f g f2 : Nat → Bool}
theorem AI_i {x y : Int32} (h : x = y) : AI (.int y) (va_up o 0 x.toInt64 0) := ⟨y, rfl, by rw [up_at, h]⟩
theorem AB_i {x y : Bool} (h : x = y) : AB (.int (zB y)) (va_up o 0 (zL x) 0) := ⟨y, rfl, by rw [up_at, h]⟩
theorem AL_i {x y : Int64} (h : x = y) : AL (.long y) (va_up o 0 x 0) := by rw [up_at, h]; rfl
theorem DD_i {x y : UInt64} (h : x = y) (h2 : FP.dcmp x x = some .eq) : DD (.double y) (va_up w 0 x 0) := by rw [up_at, ← h]; exact ⟨rfl, h2⟩
theorem DF_i {x y : UInt32} (h : x = y) (h1 : vf_n64 (FP.f2d x)) (h2 : FP.dcmp (FP.f2d x) (FP.f2d x) = some .eq) : DF (.float y) (va_up w 0 (FP.f2d x) 0) := by subst h; exact ⟨x, rfl, up_at _ _ _, h1, by rw [up_at]; exact h2⟩
/-! the helper's ends -/
theorem hv_i {x : Int32} : ∀ (v : Option Value) (τ : zz_St), xQ n R mk (pm MB MI me mt (po o w T)) (.inl (some (.int x))) (.inl v) τ → ∃ (x2 : Int32) (oo : Nat → Int64), v = some (.int x2) ∧ τ 66 = oc oo ∧ ((.inl (some (.int 0)) : zz_O) = .inl (some (.int 0)) ∧ HS n R mk MB MI me mt (va_up o 0 x.toInt64) w T (va_up τ 66 (oc (va_up oo 0 x2.toInt64)))) := fun v τ h => ⟨x, o, Sum.inl.inj h.1, HS_66 h.2, rfl, HS_u h.2 _⟩
theorem hv_b {x : Bool} : ∀ (v : Option Value) (τ : zz_St), xQ n R mk (pm MB MI me mt (po o w T)) (.inl (some (.int (zB x)))) (.inl v) τ → ∃ (x2 : Bool) (oo : Nat → Int64), v = some (.int (zB x2)) ∧ τ 66 = oc oo ∧ ((.inl (some (.int 0)) : zz_O) = .inl (some (.int 0)) ∧ HS n R mk MB MI me mt (va_up o 0 (zL x)) w T (va_up τ 66 (oc (va_up oo 0 (zL x2))))) := fun v τ h => ⟨x, o, Sum.inl.inj h.1, HS_66 h.2, rfl, HS_u h.2 _⟩
theorem hv_l {x : Int64} : ∀ (v : Option Value) (τ : zz_St), xQ n R mk (pm MB MI me mt (po o w T)) (.inl (some (.long x))) (.inl v) τ → ∃ (x2 : Int64) (oo : Nat → Int64), v = some (.long x2) ∧ τ 66 = oc oo ∧ ((.inl (some (.int 0)) : zz_O) = .inl (some (.int 0)) ∧ HS n R mk MB MI me mt (va_up o 0 x) w T (va_up τ 66 (oc (va_up oo 0 x2)))) := fun v τ h => ⟨x, o, Sum.inl.inj h.1, HS_66 h.2, rfl, HS_u h.2 _⟩
theorem hv_d {x : UInt64} : ∀ (v : Option Value) (τ : zz_St), xQ n R mk (pm MB MI me mt (po o w T)) (.inl (some (.double x))) (.inl v) τ → ∃ (x2 : UInt64) (oo : Nat → UInt64), v = some (.double x2) ∧ τ 67 = od oo ∧ ((.inl (some (.int 0)) : zz_O) = .inl (some (.int 0)) ∧ HS n R mk MB MI me mt o (va_up w 0 x) T (va_up τ 67 (od (va_up oo 0 x2)))) := fun v τ h => ⟨x, w, Sum.inl.inj h.1, HS_67 h.2, rfl, HS_v h.2 _⟩
theorem hv_f {x : UInt32} (hx : vf_n64 (FP.f2d x)) : ∀ (v : Option Value) (τ : zz_St), xQ n R mk (pm MB MI me mt (po o w T)) (.inl (some (.float x))) (.inl v) τ → ∃ (x2 : UInt32) (oo : Nat → UInt64), v = some (.float x2) ∧ vf_n64 (FP.f2d x2) ∧ τ 67 = od oo ∧ ((.inl (some (.int 0)) : zz_O) = .inl (some (.int 0)) ∧ HS n R mk MB MI me mt o (va_up w 0 (FP.f2d x)) T (va_up τ 67 (od (va_up oo 0 (FP.f2d x2))))) := fun v τ h => ⟨x, w, Sum.inl.inj h.1, hx, HS_67 h.2, rfl, HS_v h.2 _⟩
/-! agreement -/
variable {Mh Mm : zz_M} {mc ms dm : Nat} {ah am : List Value} {σ τ0 : zz_St} {A : Value → Int64 → Prop} {D : Value → UInt64 → Prop} {k : Int32} {b : Value} {Ty : Value → Prop}
def HMx (Ty : Value → Prop) (Mm : zz_M) (am : List Value) (MB : Nat → Nat → Bool) (MI : Nat → Nat → Int32) (n : Nat) (mt k : Int32) (τ0 : zz_St) : Prop := ∃ (dm : Nat) (Q2 : zz_Q), dm ≤ 7 ∧ zz_C Mm dm 0 0 am (pm MB MI (nI n) mt τ0) Q2 ∧ ∀ o' τ', Q2 o' τ' → ∃ b, o' = .inl (some b) ∧ Ty b ∧ ∃ MB2 MI2, MB2 55 = MB 55 ∧ MB2 56 = MB 56 ∧ τ' = pm MB2 MI2 (nI n) k τ0
theorem hm_x (hC : zz_C Mm dm 0 0 am (pm MB MI (nI n) mt τ0) (fun o τ => o = .inl (some b) ∧ τ = pm MB MI (nI n) k τ0)) (hd : dm ≤ 7) (hT : Ty b) : HMx Ty Mm am MB MI n mt k τ0 := ⟨dm, _, hd, hC, fun _ _ h => ⟨b, h.1, hT, MB, MI, rfl, rfl, h.2⟩⟩
theorem hm_xz (hC : zz_C Mm dm 0 0 am (pm MB MI (nI n) mt τ0) (zmQ n τ0 (MB 55) (MB 56) k (some b))) (hd : dm ≤ 7) (hT : Ty b) : HMx Ty Mm am MB MI n mt k τ0 := ⟨dm, _, hd, hC, fun _ _ h => ⟨b, h.1, hT, h.2⟩⟩
theorem Ag_x (hk : k ≠ 0) (hh : zz_C Mh 8 mc ms ah σ (fun o' τ => o' = .inl (some (.int k)) ∧ HS n (rf (MB 55)) (MB 56) MB MI (nI n) mt o w T τ)) (hz : zo n (MB 55)) (hm : ∀ τ0, HMx Ty Mm am MB MI n mt k τ0) : Ag Mh Mm 8 mc ms ah am σ Ty A D := by
  refine ⟨k, _, hh, fun τ hτ => ?_⟩
  obtain ⟨τ0, rfl, h0⟩ := HS_pm hτ
  obtain ⟨dm, Q2, hd, hC, hQ⟩ := hm τ0
  refine ⟨⟨_, pm_o⟩, dm, Q2, hd, hC, fun o' τ' h => ?_⟩
  obtain ⟨b, hb, hT, MB2, MI2, e1, e2, e3⟩ := hQ o' τ' h
  exact ⟨b, hb, hT, n, MB2, MI2, o, w, T, τ0, e3, by rw [e1, e2]; exact h0, by rw [e1]; exact hz, fun e => absurd e hk⟩
def HMv (Ty : Value → Prop) (Mm : zz_M) (am : List Value) (MB : Nat → Nat → Bool) (MI : Nat → Nat → Int32) (n : Nat) (mt : Int32) (τ0 : zz_St) (n2 : Nat) (R' : Nat → Nat → Nat → Bool) (mk' : Nat → Bool) (o2 : Nat → Int64) (w2 : Nat → UInt64) (A : Value → Int64 → Prop) (D : Value → UInt64 → Prop) : Prop := ∃ (dm : Nat) (Q2 : zz_Q), dm ≤ 7 ∧ zz_C Mm dm 0 0 am (pm MB MI (nI n) mt τ0) Q2 ∧ ∀ o' τ', Q2 o' τ' → ∃ b, o' = .inl (some b) ∧ Ty b ∧ A b (o2 0) ∧ D b (w2 0) ∧ ∃ MB2 MI2, τ' = pm MB2 MI2 (nI n2) 0 τ0 ∧ (∀ r i k, r < 4 → i < n2 → k < n2 → R' r i k = rf (MB2 55) r i k) ∧ (∀ k, k < n2 → mk' k = MB2 56 k) ∧ zo n2 (MB2 55)
theorem Ag_v {o2 : Nat → Int64} {w2 : Nat → UInt64} (hh : zz_C Mh 8 mc ms ah σ (fun o' τ => o' = .inl (some (.int 0)) ∧ HS n2 R' mk' MB MI (nI n) mt o2 w2 T τ)) (hm : ∀ τ0, HMv Ty Mm am MB MI n mt τ0 n2 R' mk' o2 w2 A D) : Ag Mh Mm 8 mc ms ah am σ Ty A D := by
  refine ⟨0, _, hh, fun τ hτ => ?_⟩
  obtain ⟨τ0, rfl, h0⟩ := HS_pm hτ
  obtain ⟨dm, Q2, hd, hC, hQ⟩ := hm τ0
  refine ⟨⟨_, pm_o⟩, dm, Q2, hd, hC, fun o' τ' h => ?_⟩
  obtain ⟨b, hb, hT, hA, hD, MB2, MI2, e3, e4, e5, e6⟩ := hQ o' τ' h
  exact ⟨b, hb, hT, n2, MB2, MI2, o2, w2, T, τ0, e3, xS_c h0 e4 e5, e6, fun _ => ⟨hA, hD⟩⟩
theorem hm_v {o2 : Nat → Int64} {w2 : Nat → UInt64} (hC : zz_C Mm dm 0 0 am (pm MB MI (nI n) mt τ0) (fun o τ => o = .inl (some b) ∧ τ = pm MB2 MI2 (nI n2) 0 τ0)) (hd : dm ≤ 7) (hT : Ty b) (hA : A b (o2 0)) (hD : D b (w2 0)) (hR : ∀ r i k, r < 4 → i < n2 → k < n2 → R' r i k = rf (MB2 55) r i k) (hm : ∀ k, k < n2 → mk' k = MB2 56 k) (hz : zo n2 (MB2 55)) : HMv Ty Mm am MB MI n mt τ0 n2 R' mk' o2 w2 A D := ⟨dm, _, hd, hC, fun _ _ h => ⟨b, h.1, hT, hA, hD, MB2, MI2, h.2, hR, hm, hz⟩⟩
theorem hm_vz {o2 : Nat → Int64} {w2 : Nat → UInt64} {g2 : Nat → Bool} (hC : zz_C Mm dm 0 0 am (pm MB MI (nI n) mt τ0) (zmQ n2 τ0 f2 g2 0 (some b))) (hd : dm ≤ 7) (hT : Ty b) (hA : A b (o2 0)) (hD : D b (w2 0)) (hR : ∀ r i k, r < 4 → i < n2 → k < n2 → R' r i k = rf f2 r i k) (hm : ∀ k, k < n2 → mk' k = g2 k) (hz : zo n2 f2) : HMv Ty Mm am MB MI n mt τ0 n2 R' mk' o2 w2 A D := ⟨dm, _, hd, hC, fun _ _ h => by
  obtain ⟨h1, MB3, MI3, e1, e2, e3⟩ := h
  exact ⟨b, h1, hT, hA, hD, MB3, MI3, e3, by rw [e1]; exact hR, by rw [e2]; exact hm, by rw [e1]; exact hz⟩⟩
/-- nothing changes -/
theorem hm_s {o2 : Nat → Int64} {w2 : Nat → UInt64} (hC : zz_C Mm dm 0 0 am (pm MB MI (nI n) mt τ0) (fun o τ => o = .inl (some b) ∧ τ = pm MB MI2 (nI n) 0 τ0)) (hd : dm ≤ 7) (hT : Ty b) (hA : A b (o2 0)) (hD : D b (w2 0)) (hz : zo n (MB 55)) : HMv Ty Mm am MB MI n mt τ0 n (rf (MB 55)) (MB 56) o2 w2 A D := hm_v hC hd hT hA hD (fun _ _ _ _ _ _ => rfl) (fun _ _ => rfl) hz
theorem hm_sz {o2 : Nat → Int64} {w2 : Nat → UInt64} (hC : zz_C Mm dm 0 0 am (pm MB MI (nI n) mt τ0) (zmQ n τ0 (MB 55) (MB 56) 0 (some b))) (hd : dm ≤ 7) (hT : Ty b) (hA : A b (o2 0)) (hD : D b (w2 0)) (hz : zo n (MB 55)) : HMv Ty Mm am MB MI n mt τ0 n (rf (MB 55)) (MB 56) o2 w2 A D := hm_vz hC hd hT hA hD (fun _ _ _ _ _ _ => rfl) (fun _ _ => rfl) hz
/-! states -/
theorem up4 {q r : Nat} {X : Nat → Nat → Bool} {i k : Nat} (h : ∀ i k, i < n → k < n → X i k = rf f2 r i k) (h2 : ∀ q i k, q < 4 → q ≠ r → i < n → k < n → rf f q i k = rf f2 q i k) (hq : q < 4) (hi : i < n) (hk : k < n) : va_up (rf f) r X q i k = rf f2 q i k := by
  by_cases e : q = r
  · subst e; rw [up_at]; exact h i k hi hk
  · rw [up_ne _ _ e]; exact h2 q i k hq e hi hk
theorem rng_rf {r j a e : Nat} (hr : r < 4) (hj : j < 80) (he : e ≤ 80) {q i k : Nat} (hq : q < 4) (hi : i < 80) (hk : k < 80) : rf (rng f (6400 * r + 80 * j) a e g) q i k = if q = r ∧ i = j ∧ a ≤ k ∧ k < e then g (6400 * r + 80 * j + k) else rf f q i k := by
  show rng f (6400 * r + 80 * j) a e g (6400 * q + 80 * i + k) = _
  unfold rng
  by_cases c : q = r ∧ i = j ∧ a ≤ k ∧ k < e
  · rw [if_pos c, if_pos (by obtain ⟨c1, c2, c3, c4⟩ := c; subst c1; subst c2; omega), c.1, c.2.1]
  · rw [if_neg c, if_neg (by omega)]
theorem rng_zo {r j a e : Nat} (hz : zo n f) (hr : r < 4) (hj : j < n) (hn : n ≤ 80) (he : e ≤ n) : zo n (rng f (6400 * r + 80 * j) a e g) := fun q i k hq hi hk h => by
  have := rng_rf (f := f) (g := g) (a := a) (e := e) hr (show j < 80 by omega) (show e ≤ 80 by omega) hq hi hk
  show rf (rng f (6400 * r + 80 * j) a e g) q i k = false
  rw [this, if_neg (by omega)]
  exact hz q i k hq hi hk h
theorem rng_row {r j a e : Nat} (hr : r < 4) (hj : j < n) (hn : n ≤ 80) (he : e ≤ n) {S : Nat → Bool} (hS : ∀ k, k < n → S k = if a ≤ k ∧ k < e then g (6400 * r + 80 * j + k) else f (6400 * r + 80 * j + k)) {q i k : Nat} (hq : q < 4) (hi : i < n) (hk : k < n) : va_up (rf f) r (va_up (rf f r) j S) q i k = rf (rng f (6400 * r + 80 * j) a e g) q i k := by
  rw [rng_rf hr (show j < 80 by omega) (show e ≤ 80 by omega) hq (show i < 80 by omega) (show k < 80 by omega)]
  by_cases c1 : q = r
  · subst c1
    rw [up_at]
    by_cases c2 : i = j
    · subst c2
      rw [up_at, hS k hk]
      by_cases c3 : a ≤ k ∧ k < e
      · rw [if_pos c3, if_pos ⟨rfl, rfl, c3⟩]
      · rw [if_neg c3, if_neg (by omega)]
    · rw [up_ne _ _ c2, if_neg (by omega)]
  · rw [up_ne _ _ c1, if_neg (by omega)]
theorem rng_cnt {r j a e : Nat} {S : Nat → Bool} (hS : ∀ k, k < n → S k = if a ≤ k ∧ k < e then g (6400 * r + 80 * j + k) else f (6400 * r + 80 * j + k)) : cnt S n = cnt (fun k => rng f (6400 * r + 80 * j) a e g (6400 * r + 80 * j + k)) n := cnt_c (fun k hk => by
  rw [hS k hk]
  unfold rng
  by_cases c : a ≤ k ∧ k < e
  · rw [if_pos c, if_pos (by omega)]
  · rw [if_neg c, if_neg (by omega)])
theorem set_rf {r i k : Nat} (hr : r < 4) (hi : i < n) (hk : k < n) (hn : n ≤ 80) (b : Bool) {q a c : Nat} (hq : q < 4) (ha : a < n) (hc : c < n) : va_up (rf f) r (va_up (rf f r) i (ptS (rf f r i) k (k + 1) b)) q a c = rf (va_up f (6400 * r + 80 * i + k) b) q a c := by
  show _ = va_up f (6400 * r + 80 * i + k) b (6400 * q + 80 * a + c)
  by_cases c1 : q = r
  · subst c1
    rw [up_at]
    by_cases c2 : a = i
    · subst c2
      rw [up_at]
      unfold ptS
      by_cases c3 : k ≤ c ∧ c < k + 1
      · rw [if_pos c3, show c = k by omega, up_at]
      · rw [if_neg c3, up_ne _ _ (by omega)]
    · rw [up_ne _ _ c2, up_ne _ _ (by omega)]
  · rw [up_ne _ _ c1, up_ne _ _ (by omega)]
theorem set_zo {r i k : Nat} (hz : zo n f) (hi : i < n) (hk : k < n) (hn : n ≤ 80) (b : Bool) : zo n (va_up f (6400 * r + 80 * i + k) b) := fun q a c hq ha hc h => by
  rw [up_ne _ _ (by omega)]
  exact hz q a c hq ha hc h
theorem chn_o {r : Nat} : ∀ {m x : Nat}, (∀ i, i < m → x ≠ 6400 * r + 80 * i + (i + 1)) → chn f r m x = f x
  | 0, _, _ => rfl
  | m + 1, x, h => by
    show va_up (chn f r m) (6400 * r + 80 * m + (m + 1)) true x = f x
    rw [up_ne _ _ (h m (Nat.lt_succ_self m))]
    exact chn_o (fun i hi => h i (by omega))
theorem drw_o {r : Nat} (h1 : 1 ≤ n) (x0 : Int32) : ∀ {m x : Nat}, (∀ i k, i < n → k < n → x ≠ 6400 * r + 80 * i + k) → (drw n r f x0 m).1 x = f x
  | 0, _, _ => rfl
  | m + 1, x, h => by
    show va_up (drw n r f x0 m).1 (6400 * r + 80 * elN n (sdA (drw n r f x0 m).2) + elN n (sdA (sdA (drw n r f x0 m).2))) true x = f x
    rw [up_ne _ _ (h _ _ (elN_lt h1 _) (elN_lt h1 _))]
    exact drw_o h1 x0 h
theorem gs_rf {r : Nat} {G : Nat → Nat → Bool} (hn : n ≤ 80) {q i k : Nat} (hi : i < 80) (hk : k < 80) : rf (gs f r n n 0 G) q i k = if q = r ∧ i < n ∧ k < n then G i k else rf f q i k := by
  by_cases c : q = r ∧ i < n ∧ k < n
  · rw [if_pos c, c.1]
    exact gs_get hn c.2.1 c.2.2
  · rw [if_neg c]
    exact gs_no hn hi hk c
theorem gs_zo {r : Nat} {G : Nat → Nat → Bool} (hz : zo n f) (hn : n ≤ 80) : zo n (gs f r n n 0 G) := fun q i k hq hi hk h => by
  have e := gs_rf (f := f) (r := r) (G := G) hn (q := q) hi hk
  rw [if_neg (fun c => h c.2)] at e
  exact e.trans (hz q i k hq hi hk h)
theorem gs_up4 {r : Nat} {G X : Nat → Nat → Bool} (hn : n ≤ 80) (h : ∀ i k, i < n → k < n → X i k = G i k) {q i k : Nat} (hq : q < 4) (hi : i < n) (hk : k < n) : va_up (rf f) r X q i k = rf (gs f r n n 0 G) q i k := up4 (fun i k hi hk => by rw [gs_rf hn (by omega) (by omega), if_pos ⟨rfl, hi, hk⟩]; exact h i k hi hk) (fun q i k _ hq hi hk => by rw [gs_rf hn (by omega) (by omega), if_neg (fun c => hq c.1)]) hq hi hk
theorem gs_prs {r : Nat} {G X : Nat → Nat → Bool} (hn : n ≤ 80) (h : ∀ i k, i < n → k < n → X i k = G i k) : sm (fun j => cnt (X j) n) n = sm (fun j => cnt (fun k => gs f r n n 0 G (6400 * r + 80 * j + k)) n) n := sm_c (fun j hj => cnt_c (fun k hk => by
  have e := gs_rf (f := f) (r := r) (G := G) hn (q := r) (i := j) (k := k) (by omega) (by omega)
  rw [if_pos ⟨rfl, hj, hk⟩] at e
  rw [h j k hj hk]
  exact e.symm))
theorem cp_rf {r w : Nat} {g : Nat → Bool} (hw : w < 4) {q i k : Nat} (hq : q < 4) (hi : i < 80) (hk : k < 80) : rf (rng f (6400 * w) 0 6400 g) q i k = if q = w then g (6400 * w + 80 * i + k) else rf f q i k := by
  show rng f (6400 * w) 0 6400 g (6400 * q + 80 * i + k) = _
  unfold rng
  by_cases c : q = w
  · rw [if_pos c, if_pos (by omega), c]
  · rw [if_neg c, if_neg (by omega)]
/-- what is outside of n is not -/
theorem zo_row {r x : Nat} (hz : zo n f) (hr : r < 4) (hx : x < 6400) (h : ¬ (x / 80 < n ∧ x % 80 < n)) : f (6400 * r + x) = false := by
  have := hz r (x / 80) (x % 80) hr (by omega) (by omega) h
  rw [show 6400 * r + 80 * (x / 80) + x % 80 = 6400 * r + x by omega] at this
  exact this
theorem cmp_e2 {r w : Nat} (hz : zo n f) (hn : n ≤ 80) (hr : r < 4) (hw : w < 4) : anb (fun k => f (6400 * r + k) && !(f (6400 * w + k))) 6400 = !(sbR n (rf f r) (rf f w)) := by
  rw [Bool.eq_iff_iff, anb_t, Bool.not_eq_true', ← Bool.not_eq_true, sbR_t]
  constructor
  · rintro ⟨x, hx, h⟩ q
    obtain ⟨h1, h2⟩ := bo_t h
    by_cases c : x / 80 < n ∧ x % 80 < n
    · have := q (x / 80) (x % 80) c.1 c.2 (by show f (6400 * r + 80 * (x / 80) + x % 80) = true; rw [show 6400 * r + 80 * (x / 80) + x % 80 = 6400 * r + x by omega]; exact h1)
      change f (6400 * w + 80 * (x / 80) + x % 80) = true at this
      rw [show 6400 * w + 80 * (x / 80) + x % 80 = 6400 * w + x by omega] at this
      rw [this] at h2; cases h2
    · rw [zo_row hz hr hx c] at h1; cases h1
  · intro q
    refine Classical.byContradiction (fun c => q (fun i k hi hk h => ?_))
    cases e : rf f w i k
    · refine absurd ⟨80 * i + k, by omega, ?_⟩ c
      show (f (6400 * r + (80 * i + k)) && !(f (6400 * w + (80 * i + k)))) = true
      rw [← Nat.add_assoc, ← Nat.add_assoc]
      change f (6400 * r + 80 * i + k) = true at h
      change f (6400 * w + 80 * i + k) = false at e
      rw [h, e]; rfl
    · rfl
end ZZJM
