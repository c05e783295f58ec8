section ZZJN
variable {n : Nat} {f g : Nat → Bool}
theorem idx_inj {q a c r i k : Nat} (ha : a < 80) (hc : c < 80) (hi : i < 80) (hk : k < 80) (h : 6400 * q + 80 * a + c = 6400 * r + 80 * i + k) : q = r ∧ a = i ∧ c = k := by
  have h1 : (6400 * q + 80 * a + c) % 80 = c := by omega
  have h2 : (6400 * r + 80 * i + k) % 80 = k := by omega
  have h3 : c = k := by rw [← h1, ← h2, h]
  have h4 : 80 * q + a = 80 * r + i := by omega
  have h5 : (80 * q + a) % 80 = a := by omega
  have h6 : (80 * r + i) % 80 = i := by omega
  have h7 : a = i := by rw [← h5, ← h6, h4]
  exact ⟨by omega, h7, h3⟩
theorem chn_rf {r q i k : Nat} (hi : i < 80) (hk : k < 80) (hn : n ≤ 80) (h : ¬ (q = r ∧ i < n ∧ k < n)) : chn f r (n - 1) (6400 * q + 80 * i + k) = f (6400 * q + 80 * i + k) := chn_o (fun m hm e => h (by
  obtain ⟨e1, e2, e3⟩ := idx_inj hi hk (show m < 80 by omega) (show m + 1 < 80 by omega) e
  omega))
theorem chn_up {r : Nat} (hn : n ≤ 80) {q i k : Nat} (hq : q < 4) (hi : i < n) (hk : k < n) : va_up (rf f) r (rf (chn f r (n - 1)) r) q i k = rf (chn f r (n - 1)) q i k := up4 (fun _ _ _ _ => rfl) (fun q i k _ hne hi hk => (chn_rf (by omega) (by omega) hn (fun c => hne c.1)).symm) hq hi hk
theorem chn_zo {r : Nat} (hz : zo n f) (hn : n ≤ 80) : zo n (chn f r (n - 1)) := fun q i k hq hi hk h => by
  rw [chn_rf hi hk hn (fun c => h c.2)]
  exact hz q i k hq hi hk h
theorem drw_rf {r q i k : Nat} (h1 : 1 ≤ n) (hi : i < 80) (hk : k < 80) (hn : n ≤ 80) (x0 : Int32) (m : Nat) (h : ¬ (q = r ∧ i < n ∧ k < n)) : (drw n r f x0 m).1 (6400 * q + 80 * i + k) = f (6400 * q + 80 * i + k) := drw_o h1 x0 (fun x y hx hy e => h (by
  obtain ⟨e1, e2, e3⟩ := idx_inj hi hk (show x < 80 by omega) (show y < 80 by omega) e
  omega))
theorem drw_up {r : Nat} (hn : n ≤ 80) (h1 : 1 ≤ n) (x0 : Int32) (m : Nat) {q i k : Nat} (hq : q < 4) (hi : i < n) (hk : k < n) : va_up (rf f) r (rf (drw n r f x0 m).1 r) q i k = rf (drw n r f x0 m).1 q i k := up4 (fun _ _ _ _ => rfl) (fun q i k _ hne hi hk => (drw_rf h1 (by omega) (by omega) hn x0 m (fun c => hne c.1)).symm) hq hi hk
theorem drw_zo {r : Nat} (hz : zo n f) (hn : n ≤ 80) (h1 : 1 ≤ n) (x0 : Int32) (m : Nat) : zo n (drw n r f x0 m).1 := fun q i k hq hi hk h => by
  rw [drw_rf h1 hi hk hn x0 m (fun c => h c.2)]
  exact hz q i k hq hi hk h
theorem cp_1 {r w : Nat} (hw : w < 4) {i k : Nat} (hi : i < 80) (hk : k < 80) {G : Nat → Bool} : rf (rng f (6400 * w) 0 6400 (fun x => G (6400 * r + (x - 6400 * w)))) w i k = G (6400 * r + 80 * i + k) := by
  rw [cp_rf (r := 0) hw hw hi hk, if_pos rfl, show 6400 * w + 80 * i + k - 6400 * w = 80 * i + k by omega, ← Nat.add_assoc]
theorem cp_2 {r w : Nat} (hw : w < 4) {i k : Nat} (hi : i < 80) (hk : k < 80) {C : Bool → Bool → Bool} : rf (rng f (6400 * w) 0 6400 (fun x => C (f x) (f (6400 * r + (x - 6400 * w))))) w i k = C (rf f w i k) (rf f r i k) := by
  rw [cp_rf (r := 0) hw hw hi hk, if_pos rfl, show 6400 * w + 80 * i + k - 6400 * w = 80 * i + k by omega, ← Nat.add_assoc]
theorem cp_0 {w : Nat} (hw : w < 4) {q i k : Nat} (hq : q < 4) (hne : q ≠ w) (hi : i < 80) (hk : k < 80) : rf (rng f (6400 * w) 0 6400 g) q i k = rf f q i k := by
  rw [cp_rf (r := 0) hw hq hi hk, if_neg hne]
theorem cp_up {w : Nat} (hw : w < 4) (hn : n ≤ 80) {X : Nat → Nat → Bool} (h : ∀ i k, i < n → k < n → X i k = rf (rng f (6400 * w) 0 6400 g) w i k) {q i k : Nat} (hq : q < 4) (hi : i < n) (hk : k < n) : va_up (rf f) w X q i k = rf (rng f (6400 * w) 0 6400 g) q i k := up4 h (fun q i k hq hne hi hk => (cp_0 hw hq hne (by omega) (by omega)).symm) hq hi hk
theorem cp_zo {w : Nat} (hw : w < 4) (hz : zo n f) (h : ∀ i k, i < 80 → k < 80 → ¬ (i < n ∧ k < n) → rf (rng f (6400 * w) 0 6400 g) w i k = false) : zo n (rng f (6400 * w) 0 6400 g) := fun q i k hq hi hk hh => by
  by_cases e : q = w
  · rw [e]; exact h i k hi hk hh
  · have := cp_0 (f := f) (g := g) hw hq e hi hk
    exact this.trans (hz q i k hq hi hk hh)
theorem cp_sm {w : Nat} {X : Nat → Nat → Bool} (h : ∀ i k, i < n → k < n → X i k = rf g w i k) : sm (fun j => cnt (X j) n) n = sm (fun j => cnt (fun k => g (6400 * w + 80 * j + k)) n) n := sm_c (fun j hj => cnt_c (fun k hk => h j k hj hk))
theorem cmb_ff : ∀ h, h < 4 → cmb h false false = false := by decide
end ZZJN
