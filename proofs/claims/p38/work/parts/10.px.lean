section ZZP
/-! the store of the class: positions 0 to 53 (0-7 relations: 0-3 those of the object, 4 work, 5 left, 6 right, 7 middle; 8-15, 16-23 their words; 24-45 sets of bits; 46, 47 orders; 48 leasts; 49, 50 walks; 51 theorem; 52 the object; 53 its relations), T what else there is -/
def px (El : Nat → Int32) (Lo Hi : Nat → Nat → Int64) (BL BH : Nat → Int64) (Od : Nat → Nat → Int32) (Ls : Nat → Int32) (nn : Int32) (T : zz_St) : zz_St := fun k =>
  if k < 8 then .inr (1, [.int (El k), .ref (8 + k), .ref (16 + k), .ref (24 + k)])
  else if k < 16 then .inl (1, 80, .inr (.inl (Lo (k - 8))))
  else if k < 24 then .inl (1, 80, .inr (.inl (Hi (k - 16))))
  else if k < 46 then .inr (0, [.long (BL k), .long (BH k)])
  else if k < 48 then .inl (0, 80, .inl (Od k))
  else if k = 48 then .inl (0, 80, .inl Ls)
  else if k < 51 then .inr (3, [.ref (34 + 5 * (k - 49)), .ref (35 + 5 * (k - 49)), .ref (36 + 5 * (k - 49)), .ref (37 + 5 * (k - 49)), .ref (38 + 5 * (k - 49)), .ref (46 + (k - 49))])
  else if k = 51 then .inr (2, [.ref 50, .ref 5, .ref 6, .ref 7, .ref 44, .ref 45, .ref 48])
  else if k = 52 then .inr (4, [.int nn, .ref 53, .ref 32, .ref 33, .ref 4, .ref 49, .ref 51])
  else if k = 53 then .inl (3, 4, .inr (.inr (.inr (.inr (fun i => some i)))))
  else T k
variable {El : Nat → Int32} {Lo Hi : Nat → Nat → Int64} {BL BH : Nat → Int64} {Od : Nat → Nat → Int32} {Ls : Nat → Int32} {nn : Int32} {T : zz_St}
theorem px_rel {r : Nat} (h : r < 8) : px El Lo Hi BL BH Od Ls nn T r = .inr (1, [.int (El r), .ref (8 + r), .ref (16 + r), .ref (24 + r)]) := by
  unfold px; rw [if_pos h]
theorem px_lo {r : Nat} (h : r < 8) : px El Lo Hi BL BH Od Ls nn T (8 + r) = .inl (1, 80, .inr (.inl (Lo r))) := by
  unfold px; rw [if_neg (by omega), if_pos (by omega), show 8 + r - 8 = r by omega]
theorem px_hi {r : Nat} (h : r < 8) : px El Lo Hi BL BH Od Ls nn T (16 + r) = .inl (1, 80, .inr (.inl (Hi r))) := by
  unfold px; rw [if_neg (by omega), if_neg (by omega), if_pos (by omega), show 16 + r - 16 = r by omega]
theorem px_bit {p : Nat} (h : 24 ≤ p ∧ p < 46) : px El Lo Hi BL BH Od Ls nn T p = .inr (0, [.long (BL p), .long (BH p)]) := by
  unfold px; rw [if_neg (by omega), if_neg (by omega), if_neg (by omega), if_pos (by omega)]
theorem px_od {p : Nat} (h : 46 ≤ p ∧ p < 48) : px El Lo Hi BL BH Od Ls nn T p = .inl (0, 80, .inl (Od p)) := by
  unfold px; rw [if_neg (by omega), if_neg (by omega), if_neg (by omega), if_neg (by omega), if_pos (by omega)]
theorem px_ls : px El Lo Hi BL BH Od Ls nn T 48 = .inl (0, 80, .inl Ls) := rfl
theorem px_wk {w : Nat} (h : w < 2) : px El Lo Hi BL BH Od Ls nn T (49 + w) = .inr (3, [.ref (34 + 5 * w), .ref (35 + 5 * w), .ref (36 + 5 * w), .ref (37 + 5 * w), .ref (38 + 5 * w), .ref (46 + w)]) := by
  unfold px
  rw [if_neg (by omega), if_neg (by omega), if_neg (by omega), if_neg (by omega), if_neg (by omega), if_neg (by omega), if_pos (by omega), show 49 + w - 49 = w by omega]
theorem px_th : px El Lo Hi BL BH Od Ls nn T 51 = .inr (2, [.ref 50, .ref 5, .ref 6, .ref 7, .ref 44, .ref 45, .ref 48]) := rfl
theorem px_x : px El Lo Hi BL BH Od Ls nn T 52 = .inr (4, [.int nn, .ref 53, .ref 32, .ref 33, .ref 4, .ref 49, .ref 51]) := rfl
theorem px_rs : px El Lo Hi BL BH Od Ls nn T 53 = .inl (3, 4, .inr (.inr (.inr (.inr (fun i => some i))))) := rfl
theorem pu_el {r : Nat} (h : r < 8) (v : Int32) : va_up (px El Lo Hi BL BH Od Ls nn T) r (.inr (1, List.set [.int (El r), .ref (8 + r), .ref (16 + r), .ref (24 + r)] 0 (.int v))) = px (va_up El r v) Lo Hi BL BH Od Ls nn T := by
  funext k
  by_cases hk : k = r
  · subst hk
    simp [va_up, px, h]
  · simp only [va_up, px, if_neg hk]
theorem pu_lo {r : Nat} (h : r < 8) (f : Nat → Int64) : va_up (px El Lo Hi BL BH Od Ls nn T) (8 + r) (.inl (1, 80, .inr (.inl f))) = px El (va_up Lo r f) Hi BL BH Od Ls nn T := by
  funext k
  by_cases hk : k = 8 + r
  · subst hk
    rw [px_lo h]
    simp [va_up]
  · by_cases h1 : k < 16 ∧ 8 ≤ k
    · have h2 : k - 8 ≠ r := by omega
      simp only [va_up, px, if_neg hk, if_neg h2]
    · simp only [va_up, px, if_neg hk]
      by_cases h8 : k < 8
      · simp only [if_pos h8]
      · have h9 : ¬ k < 16 := by omega
        simp only [if_neg h8, if_neg h9]
theorem pu_hi {r : Nat} (h : r < 8) (f : Nat → Int64) : va_up (px El Lo Hi BL BH Od Ls nn T) (16 + r) (.inl (1, 80, .inr (.inl f))) = px El Lo (va_up Hi r f) BL BH Od Ls nn T := by
  funext k
  by_cases hk : k = 16 + r
  · subst hk
    rw [px_hi h]
    simp [va_up]
  · by_cases h1 : k < 24 ∧ 16 ≤ k
    · have h2 : k - 16 ≠ r := by omega
      simp only [va_up, px, if_neg hk, if_neg h2]
    · simp only [va_up, px, if_neg hk]
      by_cases h8 : k < 8
      · simp only [if_pos h8]
      · by_cases h9 : k < 16
        · simp only [if_neg h8, if_pos h9]
        · have h10 : ¬ k < 24 := by omega
          simp only [if_neg h8, if_neg h9, if_neg h10]
theorem pu_bl {p : Nat} (h : 24 ≤ p ∧ p < 46) (v : Int64) : va_up (px El Lo Hi BL BH Od Ls nn T) p (.inr (0, List.set [.long (BL p), .long (BH p)] 0 (.long v))) = px El Lo Hi (va_up BL p v) BH Od Ls nn T := by
  funext k
  by_cases hk : k = p
  · subst hk
    rw [px_bit h]
    simp [va_up]
  · simp only [va_up, px, if_neg hk]
theorem pu_bh {p : Nat} (h : 24 ≤ p ∧ p < 46) (v : Int64) : va_up (px El Lo Hi BL BH Od Ls nn T) p (.inr (0, List.set [.long (BL p), .long (BH p)] 1 (.long v))) = px El Lo Hi BL (va_up BH p v) Od Ls nn T := by
  funext k
  by_cases hk : k = p
  · subst hk
    rw [px_bit h]
    simp [va_up]
  · simp only [va_up, px, if_neg hk]
theorem pu_od {p : Nat} (h : 46 ≤ p ∧ p < 48) (f : Nat → Int32) : va_up (px El Lo Hi BL BH Od Ls nn T) p (.inl (0, 80, .inl f)) = px El Lo Hi BL BH (va_up Od p f) Ls nn T := by
  funext k
  by_cases hk : k = p
  · subst hk
    rw [px_od h]
    simp [va_up]
  · simp only [va_up, px, if_neg hk]
theorem pu_ls (f : Nat → Int32) : va_up (px El Lo Hi BL BH Od Ls nn T) 48 (.inl (0, 80, .inl f)) = px El Lo Hi BL BH Od f nn T := by
  funext k
  by_cases hk : k = 48
  · subst hk
    rfl
  · simp only [va_up, px, if_neg hk]
theorem pu_nn (v : Int32) : va_up (px El Lo Hi BL BH Od Ls nn T) 52 (.inr (4, List.set [.int nn, .ref 53, .ref 32, .ref 33, .ref 4, .ref 49, .ref 51] 0 (.int v))) = px El Lo Hi BL BH Od Ls v T := by
  funext k
  by_cases hk : k = 52
  · subst hk
    rfl
  · simp only [va_up, px, if_neg hk]
/-! typed rows -/
variable {M : zz_M} {sc : Option (Nat × (Nat → Int32))} {d rc rz : Nat} {Q : zz_Q} {pc : Nat} {lv : List (Nat × Value)} {st : List Value}
theorem zp_el {i r : Nat} {v : Int32} (hw : Cond.fieldLink M.2.2.2.2.1 i "Relationrows$Relation" "elements" "I" ∈ zz_g) (h : decode M.2.1 pc = .ok (.putfield i, 3)) (hr : r < 8) (K : zz_E M sc d rc rz Q (pc + 3) lv st (px (va_up El r v) Lo Hi BL BH Od Ls nn T)) : zz_E M sc d rc rz Q pc lv (.int v :: .ref r :: st) (px El Lo Hi BL BH Od Ls nn T) := by
  refine zz_put zz_inX1 tyX1 tyX1_ok nmX1 (ci := 1) (j := 0) rfl hw rfl (by decide) rfl rfl (fun _ => rfl) (fun _ => rfl) h (by omega) (px_rel hr) (Nat.le_of_ble_eq_true rfl) ?_
  rw [pu_el hr]
  exact K
theorem zp_bl {i p : Nat} {v : Int64} (hw : Cond.fieldLink M.2.2.2.2.1 i "Relationrows$Bits" "low" "J" ∈ zz_g) (h : decode M.2.1 pc = .ok (.putfield i, 3)) (hr : 24 ≤ p ∧ p < 46) (K : zz_E M sc d rc rz Q (pc + 3) lv st (px El Lo Hi (va_up BL p v) BH Od Ls nn T)) : zz_E M sc d rc rz Q pc lv (.long v :: .ref p :: st) (px El Lo Hi BL BH Od Ls nn T) := by
  refine zz_put zz_inX0 tyX0 tyX0_ok nmX0 (ci := 0) (j := 0) rfl hw rfl (by decide) rfl rfl (fun _ => rfl) (fun _ => rfl) h (by omega) (px_bit hr) (Nat.le_of_ble_eq_true rfl) ?_
  rw [pu_bl hr]
  exact K
theorem zp_bh {i p : Nat} {v : Int64} (hw : Cond.fieldLink M.2.2.2.2.1 i "Relationrows$Bits" "high" "J" ∈ zz_g) (h : decode M.2.1 pc = .ok (.putfield i, 3)) (hr : 24 ≤ p ∧ p < 46) (K : zz_E M sc d rc rz Q (pc + 3) lv st (px El Lo Hi BL (va_up BH p v) Od Ls nn T)) : zz_E M sc d rc rz Q pc lv (.long v :: .ref p :: st) (px El Lo Hi BL BH Od Ls nn T) := by
  refine zz_put zz_inX0 tyX0 tyX0_ok nmX0 (ci := 0) (j := 1) rfl hw rfl (by decide) rfl rfl (fun _ => rfl) (fun _ => rfl) h (by omega) (px_bit hr) (Nat.le_of_ble_eq_true rfl) ?_
  rw [pu_bh hr]
  exact K
theorem zp_nn {i : Nat} {v : Int32} (hw : Cond.fieldLink M.2.2.2.2.1 i "Relationrows" "elements" "I" ∈ zz_g) (h : decode M.2.1 pc = .ok (.putfield i, 3)) (K : zz_E M sc d rc rz Q (pc + 3) lv st (px El Lo Hi BL BH Od Ls v T)) : zz_E M sc d rc rz Q pc lv (.int v :: .ref 52 :: st) (px El Lo Hi BL BH Od Ls nn T) := by
  refine zz_put zz_inX4 tyX4 tyX4_ok nmX4 (ci := 4) (j := 0) rfl hw rfl (by decide) rfl rfl (fun _ => rfl) (fun _ => rfl) h (by omega) px_x (Nat.le_of_ble_eq_true rfl) ?_
  rw [pu_nn]
  exact K
theorem zg_bl {i p : Nat} (hw : Cond.fieldLink M.2.2.2.2.1 i "Relationrows$Bits" "low" "J" ∈ zz_g) (h : decode M.2.1 pc = .ok (.getfield i, 3)) (hr : 24 ≤ p ∧ p < 46) (K : zz_E M sc d rc rz Q (pc + 3) lv (.long (BL p) :: st) (px El Lo Hi BL BH Od Ls nn T)) : zz_E M sc d rc rz Q pc lv (.ref p :: st) (px El Lo Hi BL BH Od Ls nn T) :=
  zz_get (j := 0) zz_inX0 rfl hw rfl (by decide) h (by omega) (px_bit hr) rfl K
theorem zg_bh {i p : Nat} (hw : Cond.fieldLink M.2.2.2.2.1 i "Relationrows$Bits" "high" "J" ∈ zz_g) (h : decode M.2.1 pc = .ok (.getfield i, 3)) (hr : 24 ≤ p ∧ p < 46) (K : zz_E M sc d rc rz Q (pc + 3) lv (.long (BH p) :: st) (px El Lo Hi BL BH Od Ls nn T)) : zz_E M sc d rc rz Q pc lv (.ref p :: st) (px El Lo Hi BL BH Od Ls nn T) :=
  zz_get (j := 1) zz_inX0 rfl hw rfl (by decide) h (by omega) (px_bit hr) rfl K
theorem zg_el {i r : Nat} (hw : Cond.fieldLink M.2.2.2.2.1 i "Relationrows$Relation" "elements" "I" ∈ zz_g) (h : decode M.2.1 pc = .ok (.getfield i, 3)) (hr : r < 8) (K : zz_E M sc d rc rz Q (pc + 3) lv (.int (El r) :: st) (px El Lo Hi BL BH Od Ls nn T)) : zz_E M sc d rc rz Q pc lv (.ref r :: st) (px El Lo Hi BL BH Od Ls nn T) :=
  zz_get (j := 0) zz_inX1 rfl hw rfl (by decide) h (by omega) (px_rel hr) rfl K
theorem zg_lo {i r : Nat} (hw : Cond.fieldLink M.2.2.2.2.1 i "Relationrows$Relation" "low" "[J" ∈ zz_g) (h : decode M.2.1 pc = .ok (.getfield i, 3)) (hr : r < 8) (K : zz_E M sc d rc rz Q (pc + 3) lv (.ref (8 + r) :: st) (px El Lo Hi BL BH Od Ls nn T)) : zz_E M sc d rc rz Q pc lv (.ref r :: st) (px El Lo Hi BL BH Od Ls nn T) :=
  zz_get (j := 1) zz_inX1 rfl hw rfl (by decide) h (by omega) (px_rel hr) rfl K
theorem zg_hi {i r : Nat} (hw : Cond.fieldLink M.2.2.2.2.1 i "Relationrows$Relation" "high" "[J" ∈ zz_g) (h : decode M.2.1 pc = .ok (.getfield i, 3)) (hr : r < 8) (K : zz_E M sc d rc rz Q (pc + 3) lv (.ref (16 + r) :: st) (px El Lo Hi BL BH Od Ls nn T)) : zz_E M sc d rc rz Q pc lv (.ref r :: st) (px El Lo Hi BL BH Od Ls nn T) :=
  zz_get (j := 2) zz_inX1 rfl hw rfl (by decide) h (by omega) (px_rel hr) rfl K
theorem zg_rw {i r : Nat} (hw : Cond.fieldLink M.2.2.2.2.1 i "Relationrows$Relation" "row" "LRelationrows$Bits;" ∈ zz_g) (h : decode M.2.1 pc = .ok (.getfield i, 3)) (hr : r < 8) (K : zz_E M sc d rc rz Q (pc + 3) lv (.ref (24 + r) :: st) (px El Lo Hi BL BH Od Ls nn T)) : zz_E M sc d rc rz Q pc lv (.ref r :: st) (px El Lo Hi BL BH Od Ls nn T) :=
  zz_get (j := 3) zz_inX1 rfl hw rfl (by decide) h (by omega) (px_rel hr) rfl K
theorem zl_lo {r j : Nat} (h : decode M.2.1 pc = .ok (.laload, 1)) (hr : r < 8) (hj : j < 80) (K : zz_E M sc d rc rz Q (pc + 1) lv (.long (Lo r j) :: st) (px El Lo Hi BL BH Od Ls nn T)) : zz_E M sc d rc rz Q pc lv (.int (nI j) :: .ref (8 + r) :: st) (px El Lo Hi BL BH Od Ls nn T) :=
  zz_lald h (by omega) (px_lo hr) (vp_in_nI hj (by omega)) (by rw [nI_clamp (by omega)]; exact K)
theorem zl_hi {r j : Nat} (h : decode M.2.1 pc = .ok (.laload, 1)) (hr : r < 8) (hj : j < 80) (K : zz_E M sc d rc rz Q (pc + 1) lv (.long (Hi r j) :: st) (px El Lo Hi BL BH Od Ls nn T)) : zz_E M sc d rc rz Q pc lv (.int (nI j) :: .ref (16 + r) :: st) (px El Lo Hi BL BH Od Ls nn T) :=
  zz_lald h (by omega) (px_hi hr) (vp_in_nI hj (by omega)) (by rw [nI_clamp (by omega)]; exact K)
theorem zs_lo {r j : Nat} {x : Int64} (h : decode M.2.1 pc = .ok (.lastore, 1)) (hr : r < 8) (hj : j < 80) (K : zz_E M sc d rc rz Q (pc + 1) lv st (px El (va_up Lo r (va_up (Lo r) j x)) Hi BL BH Od Ls nn T)) : zz_E M sc d rc rz Q pc lv (.long x :: .int (nI j) :: .ref (8 + r) :: st) (px El Lo Hi BL BH Od Ls nn T) :=
  zz_last h (by omega) (px_lo hr) (vp_in_nI hj (by omega)) (by rw [nI_clamp (by omega), pu_lo hr]; exact K)
theorem zs_hi {r j : Nat} {x : Int64} (h : decode M.2.1 pc = .ok (.lastore, 1)) (hr : r < 8) (hj : j < 80) (K : zz_E M sc d rc rz Q (pc + 1) lv st (px El Lo (va_up Hi r (va_up (Hi r) j x)) BL BH Od Ls nn T)) : zz_E M sc d rc rz Q pc lv (.long x :: .int (nI j) :: .ref (16 + r) :: st) (px El Lo Hi BL BH Od Ls nn T) :=
  zz_last h (by omega) (px_hi hr) (vp_in_nI hj (by omega)) (by rw [nI_clamp (by omega), pu_hi hr]; exact K)
theorem zl_od {p j : Nat} (h : decode M.2.1 pc = .ok (.iaload, 1)) (hr : 46 ≤ p ∧ p < 48) (hj : j < 80) (K : zz_E M sc d rc rz Q (pc + 1) lv (.int (Od p j) :: st) (px El Lo Hi BL BH Od Ls nn T)) : zz_E M sc d rc rz Q pc lv (.int (nI j) :: .ref p :: st) (px El Lo Hi BL BH Od Ls nn T) :=
  zz_iald h (by omega) (px_od hr) (vp_in_nI hj (by omega)) (by rw [nI_clamp (by omega)]; exact K)
theorem zs_od {p j : Nat} {x : Int32} (h : decode M.2.1 pc = .ok (.iastore, 1)) (hr : 46 ≤ p ∧ p < 48) (hj : j < 80) (K : zz_E M sc d rc rz Q (pc + 1) lv st (px El Lo Hi BL BH (va_up Od p (va_up (Od p) j x)) Ls nn T)) : zz_E M sc d rc rz Q pc lv (.int x :: .int (nI j) :: .ref p :: st) (px El Lo Hi BL BH Od Ls nn T) :=
  zz_iast h (by omega) (px_od hr) (vp_in_nI hj (by omega)) (by rw [nI_clamp (by omega), pu_od hr]; exact K)
theorem zl_ls {j : Nat} (h : decode M.2.1 pc = .ok (.iaload, 1)) (hj : j < 80) (K : zz_E M sc d rc rz Q (pc + 1) lv (.int (Ls j) :: st) (px El Lo Hi BL BH Od Ls nn T)) : zz_E M sc d rc rz Q pc lv (.int (nI j) :: .ref 48 :: st) (px El Lo Hi BL BH Od Ls nn T) :=
  zz_iald h (by omega) px_ls (vp_in_nI hj (by omega)) (by rw [nI_clamp (by omega)]; exact K)
theorem zs_ls {j : Nat} {x : Int32} (h : decode M.2.1 pc = .ok (.iastore, 1)) (hj : j < 80) (K : zz_E M sc d rc rz Q (pc + 1) lv st (px El Lo Hi BL BH Od (va_up Ls j x) nn T)) : zz_E M sc d rc rz Q pc lv (.int x :: .int (nI j) :: .ref 48 :: st) (px El Lo Hi BL BH Od Ls nn T) :=
  zz_iast h (by omega) px_ls (vp_in_nI hj (by omega)) (by rw [nI_clamp (by omega), pu_ls]; exact K)
/-- a contract that says one answer and one store -/
abbrev zz_Dt (M : zz_M) (d mc ms : Nat) (as : List Value) (σ : zz_St) (o : zz_O) (τ : zz_St) : Prop := zz_C M d mc ms as σ (fun o' τ' => o' = o ∧ τ' = τ)
theorem zz_iff {b : Bool} : (if b = true then (1 : Int32) else 0) = 0 ↔ b = false := by cases b <;> decide
def zB (b : Bool) : Int32 := if b = true then 1 else 0
theorem zB_0 {b : Bool} : zB b = 0 ↔ b = false := by cases b <;> decide
theorem zB_n {b : Bool} : ¬ zB b = 0 ↔ b = true := by cases b <;> decide
theorem zB_t : zB true = 1 := rfl
theorem zB_f : zB false = 0 := rfl
theorem zB_nar (b : Bool) : narrow .boolean (.int (zB b)) = .int (zB b) := by cases b <;> rfl
end ZZP
section ZZQ
variable {M : zz_M} {sc : Option (Nat × (Nat → Int32))} {d rc rz : Nat} {Q : zz_Q} {pc : Nat} {lv : List (Nat × Value)} {st : List Value} {σ τ : zz_St}
theorem zz_l2i {x : Int64} {v : Int32} (h : decode M.2.1 pc = .ok (.l2i, 1)) (hv : x.toInt32 = v) (K : zz_E M sc d rc rz Q (pc + 1) lv (.int v :: st) σ) : zz_E M sc d rc rz Q pc lv (.long x :: st) σ := by
  intro p l e R s m args below meth c ad G cA A mc ms S H locs cells slots ls hc hz hl hS hP
  exact lv_l2i S.1 S.2.1 h hv (K p l e R s m args below meth c ad G cA A mc ms S H locs cells slots ls hc hz hl hS hP)
theorem zz_callV1 {Y : zz_M} {d2 : Nat} {as rest fs : List Value} {v : Value} {q ci i : Nat} {T : u_T} {N : Nat} (hC : zz_Dt Y d2 0 0 (.ref q :: as) σ (.inl (some v)) τ)
    (h : decode M.2.1 pc = .ok (.invokevirtual i, 3)) (hw : Cond.methodLink M.2.2.2.2.1 i Y.1 ∈ zz_g)
    (hY : Y.2.2.2.2.2 = [] ∧ Y.2.2.1 ≤ 21 ∧ Cond.instanceMethod Y.1 ∈ zz_g ∧ Cond.selects Y.1.cls Y.1 Y.1 ∈ zz_g ∧ Cond.initialized Y.1.cls ∈ zz_g ∧ Cond.code Y.1 Y.2.1 Y.2.2.1 Y.2.2.2.1 ∈ zz_g)
    (hd : (Y.1.cls ≠ "java/lang/invoke/MethodHandle" ∧ Y.1.cls ≠ "java/lang/invoke/VarHandle") ∧ (parseMethodDescriptor Y.1.desc).map (fun d => d.parameters.length) = some as.length)
    (hci : vwCl[ci]? = some (Y.1.cls, T, N)) (hq : q < 58 + zz_k σ) (hs : σ q = .inr (ci, fs)) (hst : st = as.reverse ++ .ref q :: rest) (hcat : (rest.map fun v => v.category).sum ≤ 8) (hdd : d2 + 1 ≤ d) (hnt : M.2.2.2.2.2 = [])
    (K : zz_E M sc d rc rz Q (pc + 3) lv (v :: rest) τ) : zz_E M sc d rc rz Q pc lv st σ :=
  zz_callV hC h hw hY hd hci hq hs hst hcat hdd (Nat.zero_le _) (Nat.zero_le _) hnt (fun v' τ' hv => by
    obtain ⟨e1, rfl⟩ := hv
    cases e1
    exact K) (fun E τ' hv => by cases hv.1)
theorem zz_callV0 {Y : zz_M} {d2 : Nat} {as rest fs : List Value} {q ci i : Nat} {T : u_T} {N : Nat} (hC : zz_Dt Y d2 0 0 (.ref q :: as) σ (.inl none) τ)
    (h : decode M.2.1 pc = .ok (.invokevirtual i, 3)) (hw : Cond.methodLink M.2.2.2.2.1 i Y.1 ∈ zz_g)
    (hY : Y.2.2.2.2.2 = [] ∧ Y.2.2.1 ≤ 21 ∧ Cond.instanceMethod Y.1 ∈ zz_g ∧ Cond.selects Y.1.cls Y.1 Y.1 ∈ zz_g ∧ Cond.initialized Y.1.cls ∈ zz_g ∧ Cond.code Y.1 Y.2.1 Y.2.2.1 Y.2.2.2.1 ∈ zz_g)
    (hd : (Y.1.cls ≠ "java/lang/invoke/MethodHandle" ∧ Y.1.cls ≠ "java/lang/invoke/VarHandle") ∧ (parseMethodDescriptor Y.1.desc).map (fun d => d.parameters.length) = some as.length)
    (hci : vwCl[ci]? = some (Y.1.cls, T, N)) (hq : q < 58 + zz_k σ) (hs : σ q = .inr (ci, fs)) (hst : st = as.reverse ++ .ref q :: rest) (hcat : (rest.map fun v => v.category).sum ≤ 8) (hdd : d2 + 1 ≤ d) (hnt : M.2.2.2.2.2 = [])
    (K : zz_E M sc d rc rz Q (pc + 3) lv rest τ) : zz_E M sc d rc rz Q pc lv st σ :=
  zz_callV hC h hw hY hd hci hq hs hst hcat hdd (Nat.zero_le _) (Nat.zero_le _) hnt (fun v' τ' hv => by
    obtain ⟨e1, rfl⟩ := hv
    cases e1
    exact K) (fun E τ' hv => by cases hv.1)
theorem zz_callS1 {Y : zz_M} {d2 : Nat} {as rest : List Value} {v : Value} {i : Nat} (hC : zz_Dt Y d2 0 0 as σ (.inl (some v)) τ)
    (h : decode M.2.1 pc = .ok (.invokestatic i, 3)) (hw : Cond.methodLink M.2.2.2.2.1 i Y.1 ∈ zz_g)
    (hY : Y.2.2.2.2.2 = [] ∧ Y.2.2.1 ≤ 21 ∧ Cond.static Y.1 ∈ zz_g ∧ Cond.initialized Y.1.cls ∈ zz_g ∧ Cond.code Y.1 Y.2.1 Y.2.2.1 Y.2.2.2.1 ∈ zz_g)
    (hd : (Y.1.cls ≠ "java/lang/invoke/MethodHandle" ∧ Y.1.cls ≠ "java/lang/invoke/VarHandle") ∧ (parseMethodDescriptor Y.1.desc).map (fun d => d.parameters.length) = some as.length)
    (hst : st = as.reverse ++ rest) (hcat : (rest.map fun v => v.category).sum ≤ 8) (hdd : d2 + 1 ≤ d) (hnt : M.2.2.2.2.2 = [])
    (K : zz_E M sc d rc rz Q (pc + 3) lv (v :: rest) τ) : zz_E M sc d rc rz Q pc lv st σ :=
  zz_callS hC h hw hY hd hst hcat hdd (Nat.zero_le _) (Nat.zero_le _) hnt (fun v' τ' hv => by
    obtain ⟨e1, rfl⟩ := hv
    cases e1
    exact K) (fun E τ' hv => by cases hv.1)
theorem zz_callS0 {Y : zz_M} {d2 : Nat} {as rest : List Value} {i : Nat} (hC : zz_Dt Y d2 0 0 as σ (.inl none) τ)
    (h : decode M.2.1 pc = .ok (.invokestatic i, 3)) (hw : Cond.methodLink M.2.2.2.2.1 i Y.1 ∈ zz_g)
    (hY : Y.2.2.2.2.2 = [] ∧ Y.2.2.1 ≤ 21 ∧ Cond.static Y.1 ∈ zz_g ∧ Cond.initialized Y.1.cls ∈ zz_g ∧ Cond.code Y.1 Y.2.1 Y.2.2.1 Y.2.2.2.1 ∈ zz_g)
    (hd : (Y.1.cls ≠ "java/lang/invoke/MethodHandle" ∧ Y.1.cls ≠ "java/lang/invoke/VarHandle") ∧ (parseMethodDescriptor Y.1.desc).map (fun d => d.parameters.length) = some as.length)
    (hst : st = as.reverse ++ rest) (hcat : (rest.map fun v => v.category).sum ≤ 8) (hdd : d2 + 1 ≤ d) (hnt : M.2.2.2.2.2 = [])
    (K : zz_E M sc d rc rz Q (pc + 3) lv rest τ) : zz_E M sc d rc rz Q pc lv st σ :=
  zz_callS hC h hw hY hd hst hcat hdd (Nat.zero_le _) (Nat.zero_le _) hnt (fun v' τ' hv => by
    obtain ⟨e1, rfl⟩ := hv
    cases e1
    exact K) (fun E τ' hv => by cases hv.1)
end ZZQ
