section ZYA
/-! the law's own cells: 54, 55, 56 grids of 80 by 80; 57 the number of the draws; 58, 59 (while isOrder runs) what is taken, how deep; T what else there is -/
def pl (MB : Nat → Nat → Bool) (rho nu : Nat → Int32) (T : zz_St) : zz_St := fun k =>
  if 54 ≤ k ∧ k < 57 then .inl (2, 6480, .inl (fun i => zB (MB k i)))
  else if k = 57 then .inl (0, 1, .inl rho)
  else if k = 58 then .inl (2, 80, .inl (fun i => zB (MB 58 i)))
  else if k = 59 then .inl (0, 80, .inl nu)
  else T k
variable {El : Nat → Int32} {Lo Hi : Nat → Nat → Int64} {BL BH : Nat → Int64} {Od : Nat → Nat → Int32} {Ls : Nat → Int32} {nn : Int32} {MB : Nat → Nat → Bool} {rho nu : Nat → Int32} {T : zz_St}
theorem pq_b {p : Nat} (h : 54 ≤ p ∧ p < 57) : px El Lo Hi BL BH Od Ls nn (pl MB rho nu T) p = .inl (2, 6480, .inl (fun i => zB (MB p i))) := by
  unfold px
  rw [if_neg (by omega), if_neg (by omega), if_neg (by omega), if_neg (by omega), if_neg (by omega), if_neg (by omega), if_neg (by omega), if_neg (by omega), if_neg (by omega), if_neg (by omega)]
  unfold pl
  rw [if_pos h]
theorem pq_r : px El Lo Hi BL BH Od Ls nn (pl MB rho nu T) 57 = .inl (0, 1, .inl rho) := rfl
theorem pq_8 : px El Lo Hi BL BH Od Ls nn (pl MB rho nu T) 58 = .inl (2, 80, .inl (fun i => zB (MB 58 i))) := rfl
theorem pq_9 : px El Lo Hi BL BH Od Ls nn (pl MB rho nu T) 59 = .inl (0, 80, .inl nu) := rfl
theorem pq_k : zz_k (px El Lo Hi BL BH Od Ls nn (pl MB rho nu T)) = zz_k T := rfl
theorem zB_vn (b : Bool) : vp_nar .boolean (zB b) = zB b := by cases b <;> rfl
/-- an update behind the class's cells -/
theorem pq_up {q : Nat} (h : 54 ≤ q) (x : va_E) : va_up (px El Lo Hi BL BH Od Ls nn T) q x = px El Lo Hi BL BH Od Ls nn (va_up T q x) := by
  funext k
  by_cases hk : k = q
  · subst hk
    unfold px
    rw [if_neg (by omega), if_neg (by omega), if_neg (by omega), if_neg (by omega), if_neg (by omega), if_neg (by omega), if_neg (by omega), if_neg (by omega), if_neg (by omega), if_neg (by omega)]
    simp [va_up]
  · simp only [va_up, px, if_neg hk]
theorem zB_up (f : Nat → Bool) (i : Nat) (b : Bool) : va_up (fun i => zB (f i)) i (vp_nar .boolean (zB b)) = fun j => zB (va_up f i b j) := by
  rw [zB_vn]
  funext j
  unfold va_up
  split <;> rfl
theorem qu_b {p i : Nat} (h : 54 ≤ p ∧ p < 57) (b : Bool) : va_up (px El Lo Hi BL BH Od Ls nn (pl MB rho nu T)) p (.inl (2, 6480, .inl (va_up (fun i => zB (MB p i)) i (vp_nar .boolean (zB b))))) = px El Lo Hi BL BH Od Ls nn (pl (va_up MB p (va_up (MB p) i b)) rho nu T) := by
  rw [pq_up h.1, zB_up]
  congr 1
  funext k
  by_cases hk : k = p
  · subst hk
    simp only [va_up, pl, if_pos h, if_true]
  · have h8 : (58 : Nat) ≠ p := by omega
    simp only [va_up, pl, if_neg hk, if_neg h8]
theorem qu_r (f : Nat → Int32) : va_up (px El Lo Hi BL BH Od Ls nn (pl MB rho nu T)) 57 (.inl (0, 1, .inl f)) = px El Lo Hi BL BH Od Ls nn (pl MB f nu T) := by
  rw [pq_up (by omega)]
  congr 1
  funext k
  by_cases hk : k = 57
  · subst hk; rfl
  · simp only [va_up, pl, if_neg hk]
theorem qu_8 {i : Nat} (b : Bool) : va_up (px El Lo Hi BL BH Od Ls nn (pl MB rho nu T)) 58 (.inl (2, 80, .inl (va_up (fun i => zB (MB 58 i)) i (vp_nar .boolean (zB b))))) = px El Lo Hi BL BH Od Ls nn (pl (va_up MB 58 (va_up (MB 58) i b)) rho nu T) := by
  rw [pq_up (by omega), zB_up]
  congr 1
  funext k
  by_cases hk : k = 58
  · subst hk; rfl
  · by_cases h4 : 54 ≤ k ∧ k < 57
    · simp only [va_up, pl, if_neg hk]
    · simp only [va_up, pl, if_neg hk, if_neg h4]
theorem qu_9 (f : Nat → Int32) : va_up (px El Lo Hi BL BH Od Ls nn (pl MB rho nu T)) 59 (.inl (0, 80, .inl f)) = px El Lo Hi BL BH Od Ls nn (pl MB rho f T) := by
  rw [pq_up (by omega)]
  congr 1
  funext k
  by_cases hk : k = 59
  · subst hk; rfl
  · simp only [va_up, pl, if_neg hk]
/-! rows -/
variable {M : zz_M} {sc : Option (Nat × (Nat → Int32))} {d rc rz : Nat} {Q : zz_Q} {pc : Nat} {lv : List (Nat × Value)} {st : List Value} {σ : zz_St}
theorem zl_qb {p j : Nat} (h : decode M.2.1 pc = .ok (.baload, 1)) (hr : 54 ≤ p ∧ p < 57) (hj : j < 6480) (K : zz_E M sc d rc rz Q (pc + 1) lv (.int (zB (MB p j)) :: st) (px El Lo Hi BL BH Od Ls nn (pl MB rho nu T))) : zz_E M sc d rc rz Q pc lv (.int (nI j) :: .ref p :: st) (px El Lo Hi BL BH Od Ls nn (pl MB rho nu T)) :=
  zz_zald h (by omega) (pq_b hr) (vp_in_nI hj (by omega)) (by rw [nI_clamp (by omega)]; exact K)
theorem zs_qb {p j : Nat} {b : Bool} (h : decode M.2.1 pc = .ok (.bastore, 1)) (hr : 54 ≤ p ∧ p < 57) (hj : j < 6480) (K : zz_E M sc d rc rz Q (pc + 1) lv st (px El Lo Hi BL BH Od Ls nn (pl (va_up MB p (va_up (MB p) j b)) rho nu T))) : zz_E M sc d rc rz Q pc lv (.int (zB b) :: .int (nI j) :: .ref p :: st) (px El Lo Hi BL BH Od Ls nn (pl MB rho nu T)) :=
  zz_zast h (by omega) (pq_b hr) (vp_in_nI hj (by omega)) (by rw [nI_clamp (by omega), qu_b hr]; exact K)
theorem zl_q8 {j : Nat} (h : decode M.2.1 pc = .ok (.baload, 1)) (hk : zz_k T = 2) (hj : j < 80) (K : zz_E M sc d rc rz Q (pc + 1) lv (.int (zB (MB 58 j)) :: st) (px El Lo Hi BL BH Od Ls nn (pl MB rho nu T))) : zz_E M sc d rc rz Q pc lv (.int (nI j) :: .ref 58 :: st) (px El Lo Hi BL BH Od Ls nn (pl MB rho nu T)) :=
  zz_zald h (by rw [pq_k, hk]; omega) pq_8 (vp_in_nI hj (by omega)) (by rw [nI_clamp (by omega)]; exact K)
theorem zs_q8 {j : Nat} {b : Bool} (h : decode M.2.1 pc = .ok (.bastore, 1)) (hk : zz_k T = 2) (hj : j < 80) (K : zz_E M sc d rc rz Q (pc + 1) lv st (px El Lo Hi BL BH Od Ls nn (pl (va_up MB 58 (va_up (MB 58) j b)) rho nu T))) : zz_E M sc d rc rz Q pc lv (.int (zB b) :: .int (nI j) :: .ref 58 :: st) (px El Lo Hi BL BH Od Ls nn (pl MB rho nu T)) :=
  zz_zast h (by rw [pq_k, hk]; omega) pq_8 (vp_in_nI hj (by omega)) (by rw [nI_clamp (by omega), qu_8]; exact K)
theorem zl_q9 {j : Nat} (h : decode M.2.1 pc = .ok (.iaload, 1)) (hk : zz_k T = 2) (hj : j < 80) (K : zz_E M sc d rc rz Q (pc + 1) lv (.int (nu j) :: st) (px El Lo Hi BL BH Od Ls nn (pl MB rho nu T))) : zz_E M sc d rc rz Q pc lv (.int (nI j) :: .ref 59 :: st) (px El Lo Hi BL BH Od Ls nn (pl MB rho nu T)) :=
  zz_iald h (by rw [pq_k, hk]; omega) pq_9 (vp_in_nI hj (by omega)) (by rw [nI_clamp (by omega)]; exact K)
theorem zs_q9 {j : Nat} {x : Int32} (h : decode M.2.1 pc = .ok (.iastore, 1)) (hk : zz_k T = 2) (hj : j < 80) (K : zz_E M sc d rc rz Q (pc + 1) lv st (px El Lo Hi BL BH Od Ls nn (pl MB rho (va_up nu j x) T))) : zz_E M sc d rc rz Q pc lv (.int x :: .int (nI j) :: .ref 59 :: st) (px El Lo Hi BL BH Od Ls nn (pl MB rho nu T)) :=
  zz_iast h (by rw [pq_k, hk]; omega) pq_9 (vp_in_nI hj (by omega)) (by rw [nI_clamp (by omega), qu_9]; exact K)
theorem zl_r (h : decode M.2.1 pc = .ok (.iaload, 1)) (K : zz_E M sc d rc rz Q (pc + 1) lv (.int (rho 0) :: st) (px El Lo Hi BL BH Od Ls nn (pl MB rho nu T))) : zz_E M sc d rc rz Q pc lv (.int 0 :: .ref 57 :: st) (px El Lo Hi BL BH Od Ls nn (pl MB rho nu T)) := by
  show zz_E M sc d rc rz Q pc lv (.int (nI 0) :: .ref 57 :: st) _
  exact zz_iald h (by omega) pq_r (vp_in_nI (n := 0) (N := 1) (by omega) (by omega)) (by rw [nI_clamp (by omega)]; exact K)
theorem zs_r {x : Int32} (h : decode M.2.1 pc = .ok (.iastore, 1)) (K : zz_E M sc d rc rz Q (pc + 1) lv st (px El Lo Hi BL BH Od Ls nn (pl MB (va_up rho 0 x) nu T))) : zz_E M sc d rc rz Q pc lv (.int x :: .int 0 :: .ref 57 :: st) (px El Lo Hi BL BH Od Ls nn (pl MB rho nu T)) := by
  show zz_E M sc d rc rz Q pc lv (.int x :: .int (nI 0) :: .ref 57 :: st) _
  exact zz_iast h (by omega) pq_r (vp_in_nI (n := 0) (N := 1) (by omega) (by omega)) (by rw [nI_clamp (by omega), qu_r]; exact K)
theorem zz_dup2 {va vb : Value} (h : decode M.2.1 pc = .ok (.dup2, 1)) (hva : va.category = 1) (hvb : vb.category = 1) (K : zz_E M sc d rc rz Q (pc + 1) lv (va :: vb :: va :: vb :: st) σ) : zz_E M sc d rc rz Q pc lv (va :: vb :: st) σ := by
  intro p l e R s m args below meth c ad G cA A mc ms S H locs cells slots ls hc hz hl hS hP
  exact lv_dup2_11 S.1 S.2.1 h (by rw [zz_cat]; exact hva) (by rw [zz_cat]; exact hvb) (K p l e R s m args below meth c ad G cA A mc ms S H locs cells slots ls hc hz hl hS hP)
theorem zz_ixor {x y : Int32} (h : decode M.2.1 pc = .ok (.ixor, 1)) (K : zz_E M sc d rc rz Q (pc + 1) lv (.int (x ^^^ y) :: st) σ) : zz_E M sc d rc rz Q pc lv (.int y :: .int x :: st) σ := by
  intro p l e R s m args below meth c ad G cA A mc ms S H locs cells slots ls hc hz hl hS hP
  exact lv_ixor S.1 S.2.1 h (K p l e R s m args below meth c ad G cA A mc ms S H locs cells slots ls hc hz hl hS hP)
theorem zz_ior {x y : Int32} (h : decode M.2.1 pc = .ok (.ior, 1)) (K : zz_E M sc d rc rz Q (pc + 1) lv (.int (x ||| y) :: st) σ) : zz_E M sc d rc rz Q pc lv (.int y :: .int x :: st) σ := by
  intro p l e R s m args below meth c ad G cA A mc ms S H locs cells slots ls hc hz hl hS hP
  exact lv_ior S.1 S.2.1 h (K p l e R s m args below meth c ad G cA A mc ms S H locs cells slots ls hc hz hl hS hP)
theorem zz_idiv {x y : Int32} (h : decode M.2.1 pc = .ok (.idiv, 1)) (hy : ¬ y = 0) (K : zz_E M sc d rc rz Q (pc + 1) lv (.int (x / y) :: st) σ) : zz_E M sc d rc rz Q pc lv (.int y :: .int x :: st) σ := by
  intro p l e R s m args below meth c ad G cA A mc ms S H locs cells slots ls hc hz hl hS hP
  exact lv_idiv S.1 S.2.1 h hy (K p l e R s m args below meth c ad G cA A mc ms S H locs cells slots ls hc hz hl hS hP)
theorem zz_lmul {x y : Int64} (h : decode M.2.1 pc = .ok (.lmul, 1)) (K : zz_E M sc d rc rz Q (pc + 1) lv (.long (x * y) :: st) σ) : zz_E M sc d rc rz Q pc lv (.long y :: .long x :: st) σ := by
  intro p l e R s m args below meth c ad G cA A mc ms S H locs cells slots ls hc hz hl hS hP
  exact lv_lmul S.1 S.2.1 h (K p l e R s m args below meth c ad G cA A mc ms S H locs cells slots ls hc hz hl hS hP)
theorem zz_max {i : Nat} {x y : Int32} (h : decode M.2.1 pc = .ok (.invokestatic i, 3)) (hw : Cond.methodLink M.2.2.2.2.1 i Lib.Math.max.name ∈ zz_g) (hd : 1 ≤ d) (hcat : (st.map fun v => v.category).sum ≤ 8) (K : zz_E M sc d rc rz Q (pc + 3) lv (.int (if x < y then y else x) :: st) σ) : zz_E M sc d rc rz Q pc lv (.int y :: .int x :: st) σ := by
  intro p l e R s m args below meth c ad G cA A mc ms S H locs cells slots ls hc hz hl hS hP
  have hts := S.2.2.2.2.2.2.1
  have hRf : d ≤ R.frames := S.2.2.2.2.2.2.2.2.2.2.2.2.2.2.1
  have hRl : 40 * d + 20 ≤ R.locals := S.2.2.2.2.2.2.2.2.2.2.2.2.2.2.2.1
  have hRc : mc ≤ R.cells := S.2.2.2.2.2.2.2.2.2.2.2.2.2.2.2.2.1
  have hRs : ms ≤ R.slots := S.2.2.2.2.2.2.2.2.2.2.2.2.2.2.2.2.2.1
  exact va_mmax S.1 S.2.1 (S.2.2.1.trans hl.1.symm) S.2.2.2.2.2.1 (hts _ hw) (hts _ zw_t_Lib_Math_max_name) (hts _ zw_n_java_lang_Math) (hts _ zw_c_Lib_Math_max_name) (by omega) (by rw [zz_cats]; omega) (by omega) (by omega) h (K p l e R s m args below meth c ad G cA A mc ms S H locs cells slots ls hc hz hl hS hP)
theorem zz_topz {b : Bool} {x : Int32} (e : x = zB b) (K : zz_E M sc d rc rz Q pc lv (.int (zB b) :: st) σ) : zz_E M sc d rc rz Q pc lv (.int x :: st) σ := e ▸ K
/-- locals, written in another order, or fewer -/
def zz_lkup (lv : List (Nat × Value)) : List (Nat × Value) → Prop
  | [] => True
  | q :: r => lv.lookup q.1 = some q.2 ∧ zz_lkup lv r
theorem zz_lk_mem {lv : List (Nat × Value)} {i : Nat} {v : Value} (hk : lv.lookup i = some v) : (i, v) ∈ lv := by
  induction lv with
  | nil => cases hk
  | cons q lv ih =>
    obtain ⟨a, b⟩ := q
    rw [List.lookup_cons] at hk
    by_cases e : (i == a) = true
    · rw [e] at hk
      simp at e hk
      subst e; subst hk
      exact List.mem_cons_self
    · simp only [Bool.not_eq_true] at e
      rw [e] at hk
      exact List.mem_cons_of_mem _ (ih hk)
theorem zz_lkup_mem {lv : List (Nat × Value)} : ∀ {lv2 : List (Nat × Value)}, zz_lkup lv lv2 → ∀ q ∈ lv2, q ∈ lv
  | [], _, q, hq => by cases hq
  | a :: r, h, q, hq => by
    rcases List.mem_cons.mp hq with rfl | hq
    · exact zz_lk_mem h.1
    · exact zz_lkup_mem h.2 q hq
theorem zz_lvl {lv2 : List (Nat × Value)} (h : zz_lkup lv lv2) (K : zz_E M sc d rc rz Q pc lv2 st σ) : zz_E M sc d rc rz Q pc lv st σ := by
  intro p l e R s m args below meth c ad G cA A mc ms S H locs cells slots ls hc hz hl hS hP
  exact K p l e R s m args below meth c ad G cA A mc ms S H locs cells slots ls hc hz (zz_LV_sub hl (zz_lkup_mem h)) hS hP
/-- a top that is 1 or 0 -/
theorem zz_less2 {rc1 rz1 : Nat} (h1 : rc1 ≤ rc) (h2 : rz1 ≤ rz) (K : zz_E M sc d rc1 rz1 Q pc lv st σ) : zz_E M sc d rc rz Q pc lv st σ := zz_less h1 h2 K
theorem i81 : (81 : Int32) = nI 81 := rfl
theorem i80 : (80 : Int32) = nI 80 := rfl
/-! the grids -/
/-- a grid holds a relation -/
def gr (n : Nat) (f : Nat → Bool) (X : Nat → Nat → Bool) : Prop := ∀ i k, i < n → k < n → f (80 * i + k) = X i k
theorem gr_c {n : Nat} {f : Nat → Bool} {X Y : Nat → Nat → Bool} (h : gr n f X) (e : ∀ i k, i < n → k < n → X i k = Y i k) : gr n f Y := fun i k hi hk => (h i k hi hk).trans (e i k hi hk)
theorem gx {i k a c : Nat} (hk : k < 80) (hc : c < 80) (h : 80 * i + k = 80 * a + c) : i = a ∧ k = c := by omega
theorem us9 (x : Int32) : (x.toUInt32 >>> ((9 : Int32).toUInt32 &&& Int32.toUInt32 31)).toInt32 = nI (x.toBitVec.toNat / 512) := by
  have hx := x.toBitVec.isLt
  apply Int32.toBitVec_inj.mp
  apply BitVec.eq_of_toNat_eq
  rw [pk_ushr x 9 9 (by decide), pk_tn (by omega)]
end ZYA
