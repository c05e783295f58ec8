section ZZJO
variable {o : Nat → Int64} {w : Nat → UInt64} {T : zz_St} {MB MB2 : Nat → Nat → Bool} {MI MI2 : Nat → Nat → Int32} {me mt : Int32} {n n2 : Nat} {R R' : Nat → Nat → Nat → Bool} {mk mk' : Nat → Bool} {f g f2 : Nat → Bool}
variable {Mh Mm : zz_M} {mc ms dm : Nat} {ah am : List Value} {σ τ0 : zz_St} {k : Int32} {b : Value} {V : Int32 → Prop}
theorem hv_e : ∀ (v : Option Value) (τ : zz_St), (fun (o' : zz_O) (τ : zz_St) => ∃ v, V v ∧ xQ n R mk (pm MB MI me mt (po o w T)) (.inl (some (.int v))) o' τ) (.inl v) τ → ∃ (x2 : Int32) (oo : Nat → Int64), v = some (.int x2) ∧ τ 66 = oc oo ∧ ((.inl (some (.int 0)) : zz_O) = .inl (some (.int 0)) ∧ ∃ v, V v ∧ HS n R mk MB MI me mt (va_up o 0 v.toInt64) w T (va_up τ 66 (oc (va_up oo 0 x2.toInt64)))) := fun v τ h => by
  obtain ⟨x, hx, h1, h2⟩ := h
  exact ⟨x, o, Sum.inl.inj h1, HS_66 h2, rfl, x, hx, HS_u h2 _⟩
theorem Ag_e (hu : ∀ v w, V v → V w → v = w) (hh : zz_C Mh 8 mc ms ah σ (fun o' τ => o' = .inl (some (.int 0)) ∧ ∃ v, V v ∧ HS n (rf (MB 55)) (MB 56) MB MI (nI n) mt (va_up o 0 v.toInt64) w T τ)) (hz : zo n (MB 55)) (hm : ∀ τ0, ∃ (dm : Nat) (Q2 : zz_Q), dm ≤ 7 ∧ zz_C Mm dm 0 0 am (pm MB MI (nI n) mt τ0) Q2 ∧ ∀ o' τ', Q2 o' τ' → ∃ v, o' = .inl (some (.int v)) ∧ V v ∧ ∃ MB2 MI2, MB2 55 = MB 55 ∧ MB2 56 = MB 56 ∧ τ' = pm MB2 MI2 (nI n) 0 τ0) : Ag Mh Mm 8 mc ms ah am σ TI AI D0 := by
  refine ⟨0, _, hh, fun τ hτ => ?_⟩
  obtain ⟨v, hv, h9⟩ := hτ
  obtain ⟨τ0, rfl, h0⟩ := HS_pm h9
  obtain ⟨dm, Q2, hd, hC, hQ⟩ := hm τ0
  refine ⟨⟨_, pm_o⟩, dm, Q2, hd, hC, fun o' τ' h => ?_⟩
  obtain ⟨v2, hb, hv2, MB2, MI2, e1, e2, e3⟩ := hQ o' τ' h
  exact ⟨_, hb, ⟨_, rfl⟩, n, MB2, MI2, _, w, T, τ0, e3, by rw [e1, e2]; exact h0, by rw [e1]; exact hz, fun _ => ⟨AI_i (hu _ _ hv hv2), trivial⟩⟩
theorem kpV_n {g c s s' e : Bool} : ∀ w, w < 6 → w ≠ 4 → kpV g c s e w = kpV g c s' e w := by
  intro w hw h4
  rcases (show w = 0 ∨ w = 1 ∨ w = 2 ∨ w = 3 ∨ w = 5 by omega) with rfl | rfl | rfl | rfl | rfl <;> rfl
theorem isV_e {S : Nat → Bool} {r w : Nat} (hw : w < 6) (hn : n ≤ 80) (hS : w = 4 → S = gs g 0 n n 0 (cmG f r r n)) : isV n (rf f r) w = alb (fun a => alb (fun k => kpV (f (6400 * r + 80 * a + k)) (f (6400 * r + 80 * k + a)) (S (80 * a + k)) (decide (a = k)) w) n) n := by
  unfold isV
  refine alb_c (fun a ha => alb_c (fun k hk => ?_))
  by_cases h4 : w = 4
  · rw [hS h4, gs0_get hn ha hk]
    rfl
  · exact kpV_n w hw h4
theorem cmp_v {r w : Nat} (hz : zo n f) (hn : n ≤ 80) (hr : r < 4) (hw : w < 4) : cmV (!(sbR n (rf f r) (rf f w))) (!(sbR n (rf f w) (rf f r))) = cmV (anb (fun k => f (6400 * r + k) && !(f (6400 * w + k))) 6400) (anb (fun k => !(f (6400 * r + k)) && f (6400 * w + k)) 6400) := by
  rw [cmp_e2 hz hn hr hw, anb_c (f := fun k => !(f (6400 * r + k)) && f (6400 * w + k)) (g := fun k => f (6400 * w + k) && !(f (6400 * r + k))) (fun k _ => Bool.and_comm _ _), cmp_e2 hz hn hw hr]
theorem spr_e {W : Nat → Bool} {r k : Nat} {b : Bool} (hk : k < n) : ((b && g k) || anb (fun i => g i && rf f r i k) n) = cpy n (sprG (cpy n g W) f b r n) g k := by
  rw [cpy_lt hk]
  unfold sprG
  rw [cpy_lt hk]
  congr 1
  exact anb_c (fun i hi => by rw [cpy_lt hi])
theorem rng0_e {a e k : Nat} {b : Bool} : ptS g a e b k = rng g 0 a e (fun _ => b) k := by
  unfold ptS rng
  rw [Nat.zero_add, Nat.zero_add]
/-- the two calls without a helper -/
def AgE (Mx Mm : zz_M) (σ : zz_St) : Prop := ∃ (v : Int32) (P1 : zz_St → Prop), (∃ fs, σ 52 = .inr (4, fs)) ∧ (∃ dx, dx ≤ 8 ∧ zz_C Mx dx 0 0 [.ref 52] σ (fun o τ => o = .inl (some (.int v)) ∧ P1 τ)) ∧ ∀ τ, P1 τ → (∃ fs, τ 54 = .inr (5, fs)) ∧ ∃ dm Q2, dm ≤ 7 ∧ zz_C Mm dm 0 0 [.ref 54] τ Q2 ∧ ∀ o τ', Q2 o τ' → o = .inl (some (.int v)) ∧ JJ τ'
theorem a_eom {σ : zz_St} (hJ : JJ σ) : AgE mX4_endOfMarks mX5_endOfMarks σ := by
  obtain ⟨n, MB, MI, mt, o, w, T, El, Lo, Hi, BL, BH, Od, Ls, hI, hz, rfl⟩ := JJ_open hJ
  refine ⟨_, _, ⟨_, px_x⟩, ⟨7, by omega, x_eom hI⟩, fun τ hτ => ?_⟩
  obtain ⟨τ0, rfl, h0⟩ := HS_pm hτ
  refine ⟨⟨_, pm_o⟩, 1, _, by omega, m_eom (cI_n hI), fun o' τ' h => ⟨h.1, 0, n, MB, MI, o, w, T, τ0, h.2, h0, hz, fun _ => ⟨trivial, trivial⟩⟩⟩
theorem a_errors {σ : zz_St} (hJ : JJ σ) : AgE mX4_errors mX5_errors σ := by
  obtain ⟨n, MB, MI, mt, o, w, T, El, Lo, Hi, BL, BH, Od, Ls, hI, hz, rfl⟩ := JJ_open hJ
  refine ⟨_, _, ⟨_, px_x⟩, ⟨8, by omega, x_errors hI⟩, fun τ hτ => ?_⟩
  obtain ⟨τ0, rfl, h0⟩ := HS_pm hτ
  refine ⟨⟨_, pm_o⟩, 5, _, by omega, m_errors (cI_n hI) (cI_1 hI), fun o' τ' h => ?_⟩
  obtain ⟨h1, MB3, MI3, e1, e2, e3⟩ := h
  exact ⟨h1, 0, n, MB3, MI3, o, w, T, τ0, e3, by rw [e1, e2]; exact h0, by rw [e1]; exact hz, fun _ => ⟨trivial, trivial⟩⟩
end ZZJO
