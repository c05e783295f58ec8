section ZZG
/-! the store of the reference: 54 the object, 55 has, 56 isMarked, 57 square, 58 other, 59 third, 60 isMet, 61 was, 62 queue, 63 far, 64 order, 65 longest; T what else there is -/
def mln (k : Nat) : Nat := if k = 55 then 25600 else if k = 56 then 80 else if k < 60 then 6400 else 80
def pm (MB : Nat → Nat → Bool) (MI : Nat → Nat → Int32) (me mt : Int32) (T : zz_St) : zz_St := fun k =>
  if k = 54 then .inr (5, [.ref 55, .ref 56, .int me, .int mt, .ref 57, .ref 58, .ref 59, .ref 60, .ref 61, .ref 62, .ref 63, .ref 64, .ref 65])
  else if 55 ≤ k ∧ k < 62 then .inl (2, mln k, .inl (fun i => zB (MB k i)))
  else if 62 ≤ k ∧ k < 66 then .inl (0, 80, .inl (MI k))
  else T k
variable {MB : Nat → Nat → Bool} {MI : Nat → Nat → Int32} {me mt : Int32} {T : zz_St}
theorem pm_o : pm MB MI me mt T 54 = .inr (5, [.ref 55, .ref 56, .int me, .int mt, .ref 57, .ref 58, .ref 59, .ref 60, .ref 61, .ref 62, .ref 63, .ref 64, .ref 65]) := rfl
theorem pm_b {p : Nat} (h : 55 ≤ p ∧ p < 62) : pm MB MI me mt T p = .inl (2, mln p, .inl (fun i => zB (MB p i))) := by
  unfold pm; rw [if_neg (by omega), if_pos h]
theorem pm_i {p : Nat} (h : 62 ≤ p ∧ p < 66) : pm MB MI me mt T p = .inl (0, 80, .inl (MI p)) := by
  unfold pm; rw [if_neg (by omega), if_neg (by omega), if_pos h]
theorem zB_vn (b : Bool) : vp_nar .boolean (zB b) = zB b := by cases b <;> rfl
theorem qu_b {p i : Nat} (h : 55 ≤ p ∧ p < 62) (b : Bool) : va_up (pm MB MI me mt T) p (.inl (2, mln p, .inl (va_up (fun i => zB (MB p i)) i (vp_nar .boolean (zB b))))) = pm (va_up MB p (va_up (MB p) i b)) MI me mt T := by
  funext k
  by_cases hk : k = p
  · subst hk
    rw [pm_b h]
    simp only [va_up, if_true, zB_vn]
    congr 4
    funext j
    unfold va_up
    split <;> rfl
  · simp only [va_up, pm, if_neg hk]
theorem qu_i {p : Nat} (h : 62 ≤ p ∧ p < 66) (f : Nat → Int32) : va_up (pm MB MI me mt T) p (.inl (0, 80, .inl f)) = pm MB (va_up MI p f) me mt T := by
  funext k
  by_cases hk : k = p
  · subst hk
    rw [pm_i h]
    simp only [va_up, if_true]
  · simp only [va_up, pm, if_neg hk]
theorem qu_e (v : Int32) : va_up (pm MB MI me mt T) 54 (.inr (5, List.set [.ref 55, .ref 56, .int me, .int mt, .ref 57, .ref 58, .ref 59, .ref 60, .ref 61, .ref 62, .ref 63, .ref 64, .ref 65] 2 (.int v))) = pm MB MI v mt T := by
  funext k
  by_cases hk : k = 54
  · subst hk; rfl
  · simp only [va_up, pm, if_neg hk]
theorem qu_t (v : Int32) : va_up (pm MB MI me mt T) 54 (.inr (5, List.set [.ref 55, .ref 56, .int me, .int mt, .ref 57, .ref 58, .ref 59, .ref 60, .ref 61, .ref 62, .ref 63, .ref 64, .ref 65] 3 (.int v))) = pm MB MI me v T := by
  funext k
  by_cases hk : k = 54
  · subst hk; rfl
  · simp only [va_up, pm, if_neg hk]
variable {M : zz_M} {sc : Option (Nat × (Nat → Int32))} {d rc rz : Nat} {Q : zz_Q} {pc : Nat} {lv : List (Nat × Value)} {st : List Value} {σ : zz_St}
theorem zp_me {i : Nat} {v : Int32} (hw : Cond.fieldLink M.2.2.2.2.1 i "RelationrowsModel" "elements" "I" ∈ zz_g) (h : decode M.2.1 pc = .ok (.putfield i, 3)) (K : zz_E M sc d rc rz Q (pc + 3) lv st (pm MB MI v mt T)) : zz_E M sc d rc rz Q pc lv (.int v :: .ref 54 :: st) (pm MB MI me mt T) := by
  refine zz_put zz_inX5 tyX5 tyX5_ok nmX5 (ci := 5) (j := 2) rfl hw rfl (by decide) rfl rfl (fun _ => rfl) (fun _ => rfl) h (by omega) pm_o (Nat.le_of_ble_eq_true rfl) ?_
  rw [qu_e]
  exact K
theorem zp_mt {i : Nat} {v : Int32} (hw : Cond.fieldLink M.2.2.2.2.1 i "RelationrowsModel" "thrown" "I" ∈ zz_g) (h : decode M.2.1 pc = .ok (.putfield i, 3)) (K : zz_E M sc d rc rz Q (pc + 3) lv st (pm MB MI me v T)) : zz_E M sc d rc rz Q pc lv (.int v :: .ref 54 :: st) (pm MB MI me mt T) := by
  refine zz_put zz_inX5 tyX5 tyX5_ok nmX5 (ci := 5) (j := 3) rfl hw rfl (by decide) rfl rfl (fun _ => rfl) (fun _ => rfl) h (by omega) pm_o (Nat.le_of_ble_eq_true rfl) ?_
  rw [qu_t]
  exact K
theorem zl_mb {p j : Nat} (h : decode M.2.1 pc = .ok (.baload, 1)) (hr : 55 ≤ p ∧ p < 62) (hj : j < mln p) (hm : mln p ≤ 25600) (K : zz_E M sc d rc rz Q (pc + 1) lv (.int (zB (MB p j)) :: st) (pm MB MI me mt T)) : zz_E M sc d rc rz Q pc lv (.int (nI j) :: .ref p :: st) (pm MB MI me mt T) :=
  zz_zald h (by omega) (pm_b hr) (vp_in_nI hj (by omega)) (by rw [nI_clamp (by omega)]; exact K)
theorem zs_mb {p j : Nat} {b : Bool} (h : decode M.2.1 pc = .ok (.bastore, 1)) (hr : 55 ≤ p ∧ p < 62) (hj : j < mln p) (hm : mln p ≤ 25600) (K : zz_E M sc d rc rz Q (pc + 1) lv st (pm (va_up MB p (va_up (MB p) j b)) MI me mt T)) : zz_E M sc d rc rz Q pc lv (.int (zB b) :: .int (nI j) :: .ref p :: st) (pm MB MI me mt T) :=
  zz_zast h (by omega) (pm_b hr) (vp_in_nI hj (by omega)) (by rw [nI_clamp (by omega), qu_b hr]; exact K)
theorem zl_mi {p j : Nat} (h : decode M.2.1 pc = .ok (.iaload, 1)) (hr : 62 ≤ p ∧ p < 66) (hj : j < 80) (K : zz_E M sc d rc rz Q (pc + 1) lv (.int (MI p j) :: st) (pm MB MI me mt T)) : zz_E M sc d rc rz Q pc lv (.int (nI j) :: .ref p :: st) (pm MB MI me mt T) :=
  zz_iald h (by omega) (pm_i hr) (vp_in_nI hj (by omega)) (by rw [nI_clamp (by omega)]; exact K)
theorem zs_mi {p j : Nat} {x : Int32} (h : decode M.2.1 pc = .ok (.iastore, 1)) (hr : 62 ≤ p ∧ p < 66) (hj : j < 80) (K : zz_E M sc d rc rz Q (pc + 1) lv st (pm MB (va_up MI p (va_up (MI p) j x)) me mt T)) : zz_E M sc d rc rz Q pc lv (.int x :: .int (nI j) :: .ref p :: st) (pm MB MI me mt T) :=
  zz_iast h (by omega) (pm_i hr) (vp_in_nI hj (by omega)) (by rw [nI_clamp (by omega), qu_i hr]; exact K)
/-- the number on top, otherwise written -/
theorem zz_tope {x y : Int32} (e : x = y) (K : zz_E M sc d rc rz Q pc lv (.int y :: st) σ) : zz_E M sc d rc rz Q pc lv (.int x :: st) σ := e ▸ K
theorem zz_topz {b : Bool} {x : Int32} (e : x = zB b) (K : zz_E M sc d rc rz Q pc lv (.int (zB b) :: st) σ) : zz_E M sc d rc rz Q pc lv (.int x :: st) σ := e ▸ K
theorem i80 : (80 : Int32) = nI 80 := rfl
theorem i6400 : (6400 : Int32) = nI 6400 := rfl
theorem ml55 : mln 55 = 25600 := rfl
theorem ml56 : mln 56 = 80 := rfl
theorem ml57 : mln 57 = 6400 := rfl
theorem ml58 : mln 58 = 6400 := rfl
theorem ml59 : mln 59 = 6400 := rfl
theorem ml60 : mln 60 = 80 := rfl
theorem ml61 : mln 61 = 80 := rfl
end ZZG
