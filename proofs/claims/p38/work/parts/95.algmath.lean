section ZYW
variable {El : Nat → Int32} {Lo Hi : Nat → Nat → Int64} {BL BH : Nat → Int64} {Od : Nat → Nat → Int32} {Ls : Nat → Int32} {n : Nat} {R : Nat → Nat → Nat → Bool} {mk : Nat → Bool} {MB : Nat → Nat → Bool} {rho nu : Nat → Int32} {T : zz_St}
theorem pn_pos (hn : n ≤ 80) (X : Nat → Nat → Bool) : ¬ nI (pn n X) < 0 := nI_pos (Nat.lt_of_le_of_lt (pn_6400 hn X) (by decide))
theorem y_copy {r : Nat} (hr : r < 4) {X : Nat → Nat → Bool} (e : R r = X) (hI : cI n El Lo Hi BL BH R mk) : zz_C mX4_copy 7 1 6 [.ref 52, .int (nI r), .int (nI 3)] (px El Lo Hi BL BH Od Ls (nI n) T) (xQ n (va_up R 3 X) mk T (.inl (some (.int (nI (pn n X)))))) := by
  subst e
  exact x_copy_v hr (by omega) hI
theorem y_compose {a b : Nat} (ha : a < 4) (hb : b < 4) {X Y : Nat → Nat → Bool} (eX : R a = X) (eY : R b = Y) (hI : cI n El Lo Hi BL BH R mk) : zz_C mX4_compose 7 1 6 [.ref 52, .int (nI a), .int (nI b), .int (nI 3)] (px El Lo Hi BL BH Od Ls (nI n) T) (xQ n (va_up R 3 (cpR n X Y)) mk T (.inl (some (.int (nI (pn n (cpR n X Y))))))) := by
  subst eX
  subst eY
  exact x_compose_v ha hb (by omega) hI
theorem y_turn {r : Nat} (hr : r < 4) {X : Nat → Nat → Bool} (e : R r = X) (hI : cI n El Lo Hi BL BH R mk) : zz_C mX4_turn 7 1 6 [.ref 52, .int (nI r)] (px El Lo Hi BL BH Od Ls (nI n) T) (xQ n (va_up R r (fun i k => X k i)) mk T (.inl (some (.int (nI (pn n (fun i k => X k i))))))) := by
  subst e
  exact x_turn_v hr hI
theorem y_oppose {r : Nat} (hr : r < 4) {X : Nat → Nat → Bool} (e : R r = X) (hI : cI n El Lo Hi BL BH R mk) : zz_C mX4_oppose 7 1 6 [.ref 52, .int (nI r)] (px El Lo Hi BL BH Od Ls (nI n) T) (xQ n (va_up R r (fun i k => !(X i k))) mk T (.inl (some (.int (nI (pn n (fun i k => !(X i k)))))))) := by
  subst e
  exact x_oppose_v hr hI
theorem y_count {r : Nat} (hr : r < 4) {X : Nat → Nat → Bool} (e : R r = X) (hI : cI n El Lo Hi BL BH R mk) : zz_C mX4_count 7 1 6 [.ref 52, .int (nI r)] (px El Lo Hi BL BH Od Ls (nI n) T) (xQ n R mk T (.inl (some (.int (nI (pn n X)))))) := by
  subst e
  exact x_count_v hr hI
theorem y_combine {r w h : Nat} (hr : r < 4) (hw : w < 4) (hh : h < 4) {X Y : Nat → Nat → Bool} (eX : R r = X) (eY : R w = Y) (hI : cI n El Lo Hi BL BH R mk) : zz_C mX4_combine 7 1 6 [.ref 52, .int (nI r), .int (nI w), .int (nI h)] (px El Lo Hi BL BH Od Ls (nI n) T) (xQ n (va_up R r (fun i k => cmb h (X i k) (Y i k))) mk T (.inl (some (.int (nI (pn n (fun i k => cmb h (X i k) (Y i k)))))))) := by
  subst eX
  subst eY
  exact x_combine_v hr hw hh hI
theorem y_sees {r q : Nat} (hr : r < 4) (hq : 54 ≤ q ∧ q < 57) {X : Nat → Nat → Bool} (e : R r = X) (hI : cI n El Lo Hi BL BH R mk) : zz_C mL_sees 8 160 960 [.ref 52, .int (nI r), .int (nI n), .ref q] (px El Lo Hi BL BH Od Ls (nI n) (pl MB rho nu T)) (fun o τ => ∃ MB2, gr n (MB2 q) X ∧ (∀ p, p ≠ q → MB2 p = MB p) ∧ xQ n R mk (pl MB2 rho nu T) (.inl (some (.int (nI (pn n X))))) o τ) := by
  subst e
  exact c_sees hr hq hI
theorem gr_flat {n : Nat} {f : Nat → Bool} {X : Nat → Nat → Bool} (h : gr n f X) {k : Nat} (hk : k < 80 * n) (h2 : k % 80 < n) : f k = X (k / 80) (k % 80) := by
  have e := h (k / 80) (k % 80) (by omega) h2
  rw [show 80 * (k / 80) + k % 80 = k by omega] at e
  exact e
theorem cmb_0 (a b : Bool) : cmb 0 a b = (a || b) := rfl
theorem cmb_1 (a b : Bool) : cmb 1 a b = (a && b) := rfl
theorem cmb_2 (a b : Bool) : cmb 2 a b = (a && !b) := rfl
theorem cmb_3 (a b : Bool) : cmb 3 a b = (a != b) := rfl
end ZYW
