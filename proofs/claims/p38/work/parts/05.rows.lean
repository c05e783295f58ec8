section ZZB
variable {M : zz_M} {sc : Option (Nat × (Nat → Int32))} {d rc rz : Nat} {Q : zz_Q} {pc : Nat} {lv : List (Nat × Value)} {st : List Value} {σ : zz_St}
theorem zz_iconst {n : Int} {v : Int32} (h : decode M.2.1 pc = .ok (.iconst n, 1)) (hv : Int32.ofInt n = v) (K : zz_E M sc d rc rz Q (pc + 1) (lv) (.int v :: st) (σ)) : zz_E M sc d rc rz Q (pc) (lv) (st) (σ) := by
  intro p l e R s m args below meth c ad G cA A mc ms S H locs cells slots ls hc hz hl hS hP
  exact lv_iconst S.1 S.2.1 h hv (K p l e R s m args below meth c ad G cA A mc ms S H locs cells slots ls hc hz hl hS hP)
theorem zz_bipush {n : Int} {v : Int32} (h : decode M.2.1 pc = .ok (.bipush n, 2)) (hv : (Int8.ofInt n).toInt32 = v) (K : zz_E M sc d rc rz Q (pc + 2) (lv) (.int v :: st) (σ)) : zz_E M sc d rc rz Q (pc) (lv) (st) (σ) := by
  intro p l e R s m args below meth c ad G cA A mc ms S H locs cells slots ls hc hz hl hS hP
  exact lv_bipush S.1 S.2.1 h hv (K p l e R s m args below meth c ad G cA A mc ms S H locs cells slots ls hc hz hl hS hP)
theorem zz_sipush {n : Int} {v : Int32} (h : decode M.2.1 pc = .ok (.sipush n, 3)) (hv : (Int16.ofInt n).toInt32 = v) (K : zz_E M sc d rc rz Q (pc + 3) (lv) (.int v :: st) (σ)) : zz_E M sc d rc rz Q (pc) (lv) (st) (σ) := by
  intro p l e R s m args below meth c ad G cA A mc ms S H locs cells slots ls hc hz hl hS hP
  exact lv_sipush S.1 S.2.1 h hv (K p l e R s m args below meth c ad G cA A mc ms S H locs cells slots ls hc hz hl hS hP)
theorem zz_lconst {n : Fin 2} {v : Int64} (h : decode M.2.1 pc = .ok (.lconst n, 1)) (hv : Int64.ofNat (n : Nat) = v) (K : zz_E M sc d rc rz Q (pc + 1) (lv) (.long v :: st) (σ)) : zz_E M sc d rc rz Q (pc) (lv) (st) (σ) := by
  intro p l e R s m args below meth c ad G cA A mc ms S H locs cells slots ls hc hz hl hS hP
  exact lv_lconst S.1 S.2.1 h hv (K p l e R s m args below meth c ad G cA A mc ms S H locs cells slots ls hc hz hl hS hP)
theorem zz_ldc {i : Nat} {v : Int32} (h : decode M.2.1 pc = .ok (.ldc i, 2)) (hw : Cond.constant M.2.2.2.2.1 i v ∈ zz_g) (K : zz_E M sc d rc rz Q (pc + 2) (lv) (.int v :: st) (σ)) : zz_E M sc d rc rz Q (pc) (lv) (st) (σ) := by
  intro p l e R s m args below meth c ad G cA A mc ms S H locs cells slots ls hc hz hl hS hP
  exact lv_ldc S.1 S.2.1 S.2.2.2.2.2.1 (S.2.2.2.2.2.2.1 _ hw) h (K p l e R s m args below meth c ad G cA A mc ms S H locs cells slots ls hc hz hl hS hP)
theorem zz_ldc2 {i : Nat} {v : Int64} (h : decode M.2.1 pc = .ok (.ldc2_w i, 3)) (hw : Cond.constantLong M.2.2.2.2.1 i v ∈ zz_g) (K : zz_E M sc d rc rz Q (pc + 3) (lv) (.long v :: st) (σ)) : zz_E M sc d rc rz Q (pc) (lv) (st) (σ) := by
  intro p l e R s m args below meth c ad G cA A mc ms S H locs cells slots ls hc hz hl hS hP
  exact lv_ldc2 S.1 S.2.1 S.2.2.2.2.2.1 (S.2.2.2.2.2.2.1 _ hw) h (K p l e R s m args below meth c ad G cA A mc ms S H locs cells slots ls hc hz hl hS hP)
theorem zz_iload_n {k : Fin 4} {x : Int32} (h : decode M.2.1 pc = .ok (.iload_n k, 1)) (hv : lv.lookup (k : Nat) = some (.int x)) (K : zz_E M sc d rc rz Q (pc + 1) (lv) (.int x :: st) (σ)) : zz_E M sc d rc rz Q (pc) (lv) (st) (σ) := by
  intro p l e R s m args below meth c ad G cA A mc ms S H locs cells slots ls hc hz hl hS hP
  exact lv_iload_n S.1 S.2.1 h rfl (zz_lv_at (M := M) hl hv) (K p l e R s m args below meth c ad G cA A mc ms S H locs cells slots ls hc hz hl hS hP)
theorem zz_iload {i : Nat} {x : Int32} (h : decode M.2.1 pc = .ok (.iload i, 2)) (hv : lv.lookup i = some (.int x)) (K : zz_E M sc d rc rz Q (pc + 2) (lv) (.int x :: st) (σ)) : zz_E M sc d rc rz Q (pc) (lv) (st) (σ) := by
  intro p l e R s m args below meth c ad G cA A mc ms S H locs cells slots ls hc hz hl hS hP
  exact lv_iload S.1 S.2.1 h (zz_lv_at (M := M) hl hv) (K p l e R s m args below meth c ad G cA A mc ms S H locs cells slots ls hc hz hl hS hP)
theorem zz_lload_n {k : Fin 4} {x : Int64} (h : decode M.2.1 pc = .ok (.lload_n k, 1)) (hv : lv.lookup (k : Nat) = some (.long x)) (K : zz_E M sc d rc rz Q (pc + 1) (lv) (.long x :: st) (σ)) : zz_E M sc d rc rz Q (pc) (lv) (st) (σ) := by
  intro p l e R s m args below meth c ad G cA A mc ms S H locs cells slots ls hc hz hl hS hP
  exact lv_lload_n S.1 S.2.1 h rfl (zz_lv_at (M := M) hl hv) (K p l e R s m args below meth c ad G cA A mc ms S H locs cells slots ls hc hz hl hS hP)
theorem zz_lload {i : Nat} {x : Int64} (h : decode M.2.1 pc = .ok (.lload i, 2)) (hv : lv.lookup i = some (.long x)) (K : zz_E M sc d rc rz Q (pc + 2) (lv) (.long x :: st) (σ)) : zz_E M sc d rc rz Q (pc) (lv) (st) (σ) := by
  intro p l e R s m args below meth c ad G cA A mc ms S H locs cells slots ls hc hz hl hS hP
  exact lv_lload S.1 S.2.1 h (zz_lv_at (M := M) hl hv) (K p l e R s m args below meth c ad G cA A mc ms S H locs cells slots ls hc hz hl hS hP)
theorem zz_fload_n {k : Fin 4} {x : UInt32} (h : decode M.2.1 pc = .ok (.fload_n k, 1)) (hv : lv.lookup (k : Nat) = some (.float x)) (K : zz_E M sc d rc rz Q (pc + 1) (lv) (.float x :: st) (σ)) : zz_E M sc d rc rz Q (pc) (lv) (st) (σ) := by
  intro p l e R s m args below meth c ad G cA A mc ms S H locs cells slots ls hc hz hl hS hP
  exact lv_fload_n S.1 S.2.1 h rfl (zz_lv_at (M := M) hl hv) (K p l e R s m args below meth c ad G cA A mc ms S H locs cells slots ls hc hz hl hS hP)
theorem zz_fload {i : Nat} {x : UInt32} (h : decode M.2.1 pc = .ok (.fload i, 2)) (hv : lv.lookup i = some (.float x)) (K : zz_E M sc d rc rz Q (pc + 2) (lv) (.float x :: st) (σ)) : zz_E M sc d rc rz Q (pc) (lv) (st) (σ) := by
  intro p l e R s m args below meth c ad G cA A mc ms S H locs cells slots ls hc hz hl hS hP
  exact lv_fload S.1 S.2.1 h (zz_lv_at (M := M) hl hv) (K p l e R s m args below meth c ad G cA A mc ms S H locs cells slots ls hc hz hl hS hP)
theorem zz_dload_n {k : Fin 4} {x : UInt64} (h : decode M.2.1 pc = .ok (.dload_n k, 1)) (hv : lv.lookup (k : Nat) = some (.double x)) (K : zz_E M sc d rc rz Q (pc + 1) (lv) (.double x :: st) (σ)) : zz_E M sc d rc rz Q (pc) (lv) (st) (σ) := by
  intro p l e R s m args below meth c ad G cA A mc ms S H locs cells slots ls hc hz hl hS hP
  exact lv_dload_n S.1 S.2.1 h rfl (zz_lv_at (M := M) hl hv) (K p l e R s m args below meth c ad G cA A mc ms S H locs cells slots ls hc hz hl hS hP)
theorem zz_dload {i : Nat} {x : UInt64} (h : decode M.2.1 pc = .ok (.dload i, 2)) (hv : lv.lookup i = some (.double x)) (K : zz_E M sc d rc rz Q (pc + 2) (lv) (.double x :: st) (σ)) : zz_E M sc d rc rz Q (pc) (lv) (st) (σ) := by
  intro p l e R s m args below meth c ad G cA A mc ms S H locs cells slots ls hc hz hl hS hP
  exact lv_dload S.1 S.2.1 h (zz_lv_at (M := M) hl hv) (K p l e R s m args below meth c ad G cA A mc ms S H locs cells slots ls hc hz hl hS hP)
theorem zz_aload_n {k : Fin 4} {x : Nat} (h : decode M.2.1 pc = .ok (.aload_n k, 1)) (hv : lv.lookup (k : Nat) = some (.ref x)) (K : zz_E M sc d rc rz Q (pc + 1) (lv) (.ref x :: st) (σ)) : zz_E M sc d rc rz Q (pc) (lv) (st) (σ) := by
  intro p l e R s m args below meth c ad G cA A mc ms S H locs cells slots ls hc hz hl hS hP
  exact lv_aload_n S.1 S.2.1 h rfl (zz_lv_at (M := M) hl hv) (K p l e R s m args below meth c ad G cA A mc ms S H locs cells slots ls hc hz hl hS hP)
theorem zz_aload {i : Nat} {x : Nat} (h : decode M.2.1 pc = .ok (.aload i, 2)) (hv : lv.lookup i = some (.ref x)) (K : zz_E M sc d rc rz Q (pc + 2) (lv) (.ref x :: st) (σ)) : zz_E M sc d rc rz Q (pc) (lv) (st) (σ) := by
  intro p l e R s m args below meth c ad G cA A mc ms S H locs cells slots ls hc hz hl hS hP
  exact lv_aload S.1 S.2.1 h (zz_lv_at (M := M) hl hv) (K p l e R s m args below meth c ad G cA A mc ms S H locs cells slots ls hc hz hl hS hP)
theorem zz_istore_n {k : Fin 4} {x : Int32} (h : decode M.2.1 pc = .ok (.istore_n k, 1)) (hn : (k : Nat) < M.2.2.1) (K : zz_E M sc d rc rz Q (pc + 1) (zz_up1 lv (k : Nat) (.int x)) (st) (σ)) : zz_E M sc d rc rz Q (pc) (lv) (.int x :: st) (σ) := by
  intro p l e R s m args below meth c ad G cA A mc ms S H locs cells slots ls hc hz hl hS hP
  exact lv_istore_n S.1 S.2.1 h rfl hl hn (zz_LV_up1 ad lv (k : Nat) (.int x)) (fun ls2 hl2 => K p l e R s m args below meth c ad G cA A mc ms S H locs cells slots ls2 hc hz hl2 hS hP)
theorem zz_istore {i : Nat} {x : Int32} (h : decode M.2.1 pc = .ok (.istore i, 2)) (hn : i < M.2.2.1) (K : zz_E M sc d rc rz Q (pc + 2) (zz_up1 lv i (.int x)) (st) (σ)) : zz_E M sc d rc rz Q (pc) (lv) (.int x :: st) (σ) := by
  intro p l e R s m args below meth c ad G cA A mc ms S H locs cells slots ls hc hz hl hS hP
  exact lv_istore S.1 S.2.1 h hl hn (zz_LV_up1 ad lv i (.int x)) (fun ls2 hl2 => K p l e R s m args below meth c ad G cA A mc ms S H locs cells slots ls2 hc hz hl2 hS hP)
theorem zz_lstore_n {k : Fin 4} {x : Int64} (h : decode M.2.1 pc = .ok (.lstore_n k, 1)) (hn : (k : Nat) + 1 < M.2.2.1) (K : zz_E M sc d rc rz Q (pc + 1) (zz_up2 lv (k : Nat) (.long x)) (st) (σ)) : zz_E M sc d rc rz Q (pc) (lv) (.long x :: st) (σ) := by
  intro p l e R s m args below meth c ad G cA A mc ms S H locs cells slots ls hc hz hl hS hP
  exact lv_lstore_n S.1 S.2.1 h rfl hl hn (zz_LV_up2 ad lv (k : Nat) (.long x)) (fun ls2 hl2 => K p l e R s m args below meth c ad G cA A mc ms S H locs cells slots ls2 hc hz hl2 hS hP)
theorem zz_lstore {i : Nat} {x : Int64} (h : decode M.2.1 pc = .ok (.lstore i, 2)) (hn : i + 1 < M.2.2.1) (K : zz_E M sc d rc rz Q (pc + 2) (zz_up2 lv i (.long x)) (st) (σ)) : zz_E M sc d rc rz Q (pc) (lv) (.long x :: st) (σ) := by
  intro p l e R s m args below meth c ad G cA A mc ms S H locs cells slots ls hc hz hl hS hP
  exact lv_lstore S.1 S.2.1 h hl hn (zz_LV_up2 ad lv i (.long x)) (fun ls2 hl2 => K p l e R s m args below meth c ad G cA A mc ms S H locs cells slots ls2 hc hz hl2 hS hP)
theorem zz_fstore_n {k : Fin 4} {x : UInt32} (h : decode M.2.1 pc = .ok (.fstore_n k, 1)) (hn : (k : Nat) < M.2.2.1) (K : zz_E M sc d rc rz Q (pc + 1) (zz_up1 lv (k : Nat) (.float x)) (st) (σ)) : zz_E M sc d rc rz Q (pc) (lv) (.float x :: st) (σ) := by
  intro p l e R s m args below meth c ad G cA A mc ms S H locs cells slots ls hc hz hl hS hP
  exact lv_fstore_n S.1 S.2.1 h rfl hl hn (zz_LV_up1 ad lv (k : Nat) (.float x)) (fun ls2 hl2 => K p l e R s m args below meth c ad G cA A mc ms S H locs cells slots ls2 hc hz hl2 hS hP)
theorem zz_fstore {i : Nat} {x : UInt32} (h : decode M.2.1 pc = .ok (.fstore i, 2)) (hn : i < M.2.2.1) (K : zz_E M sc d rc rz Q (pc + 2) (zz_up1 lv i (.float x)) (st) (σ)) : zz_E M sc d rc rz Q (pc) (lv) (.float x :: st) (σ) := by
  intro p l e R s m args below meth c ad G cA A mc ms S H locs cells slots ls hc hz hl hS hP
  exact lv_fstore S.1 S.2.1 h hl hn (zz_LV_up1 ad lv i (.float x)) (fun ls2 hl2 => K p l e R s m args below meth c ad G cA A mc ms S H locs cells slots ls2 hc hz hl2 hS hP)
theorem zz_dstore_n {k : Fin 4} {x : UInt64} (h : decode M.2.1 pc = .ok (.dstore_n k, 1)) (hn : (k : Nat) + 1 < M.2.2.1) (K : zz_E M sc d rc rz Q (pc + 1) (zz_up2 lv (k : Nat) (.double x)) (st) (σ)) : zz_E M sc d rc rz Q (pc) (lv) (.double x :: st) (σ) := by
  intro p l e R s m args below meth c ad G cA A mc ms S H locs cells slots ls hc hz hl hS hP
  exact lv_dstore_n S.1 S.2.1 h rfl hl hn (zz_LV_up2 ad lv (k : Nat) (.double x)) (fun ls2 hl2 => K p l e R s m args below meth c ad G cA A mc ms S H locs cells slots ls2 hc hz hl2 hS hP)
theorem zz_dstore {i : Nat} {x : UInt64} (h : decode M.2.1 pc = .ok (.dstore i, 2)) (hn : i + 1 < M.2.2.1) (K : zz_E M sc d rc rz Q (pc + 2) (zz_up2 lv i (.double x)) (st) (σ)) : zz_E M sc d rc rz Q (pc) (lv) (.double x :: st) (σ) := by
  intro p l e R s m args below meth c ad G cA A mc ms S H locs cells slots ls hc hz hl hS hP
  exact lv_dstore S.1 S.2.1 h hl hn (zz_LV_up2 ad lv i (.double x)) (fun ls2 hl2 => K p l e R s m args below meth c ad G cA A mc ms S H locs cells slots ls2 hc hz hl2 hS hP)
theorem zz_astore_n {k : Fin 4} {x : Nat} (h : decode M.2.1 pc = .ok (.astore_n k, 1)) (hn : (k : Nat) < M.2.2.1) (K : zz_E M sc d rc rz Q (pc + 1) (zz_up1 lv (k : Nat) (.ref x)) (st) (σ)) : zz_E M sc d rc rz Q (pc) (lv) (.ref x :: st) (σ) := by
  intro p l e R s m args below meth c ad G cA A mc ms S H locs cells slots ls hc hz hl hS hP
  exact lv_astore_n S.1 S.2.1 h rfl hl hn (zz_LV_up1 ad lv (k : Nat) (.ref x)) (fun ls2 hl2 => K p l e R s m args below meth c ad G cA A mc ms S H locs cells slots ls2 hc hz hl2 hS hP)
theorem zz_astore {i : Nat} {x : Nat} (h : decode M.2.1 pc = .ok (.astore i, 2)) (hn : i < M.2.2.1) (K : zz_E M sc d rc rz Q (pc + 2) (zz_up1 lv i (.ref x)) (st) (σ)) : zz_E M sc d rc rz Q (pc) (lv) (.ref x :: st) (σ) := by
  intro p l e R s m args below meth c ad G cA A mc ms S H locs cells slots ls hc hz hl hS hP
  exact lv_astore S.1 S.2.1 h hl hn (zz_LV_up1 ad lv i (.ref x)) (fun ls2 hl2 => K p l e R s m args below meth c ad G cA A mc ms S H locs cells slots ls2 hc hz hl2 hS hP)
theorem zz_astoreX {i : Nat} {x : Nat} {lv2 : List (Nat × Value)} (h : decode M.2.1 pc = .ok (.astore i, 2)) (hn : i < M.2.2.1) (hs : ∀ q ∈ lv2, q ∈ zz_up1 lv i (.ref x)) (K : zz_E M sc d rc rz Q (pc + 2) lv2 st σ) : zz_E M sc d rc rz Q pc lv (.ref x :: st) σ := by
  intro p l e R s m args below meth c ad G cA A mc ms S H locs cells slots ls hc hz hl hS hP
  exact lv_astore S.1 S.2.1 h hl hn (zz_LV_up1 ad lv i (.ref x)) (fun ls2 hl2 => K p l e R s m args below meth c ad G cA A mc ms S H locs cells slots ls2 hc hz (zz_LV_sub hl2 hs) hS hP)
/-- fewer locals are told -/
theorem zz_lvs {lv2 : List (Nat × Value)} (hs : ∀ q ∈ lv2, q ∈ lv) (K : zz_E M sc d rc rz Q pc lv2 st σ) : zz_E M sc d rc rz Q pc lv st σ := by
  intro p l e R s m args below meth c ad G cA A mc ms S H locs cells slots ls hc hz hl hS hP
  exact K p l e R s m args below meth c ad G cA A mc ms S H locs cells slots ls hc hz (zz_LV_sub hl hs) hS hP
theorem zz_iinc {i : Nat} {n : Int} {x v : Int32} (h : decode M.2.1 pc = .ok (.iinc i n, 3)) (hv : lv.lookup i = some (.int x)) (hx : x + Int32.ofInt n = v) (hn : i < M.2.2.1) (K : zz_E M sc d rc rz Q (pc + 3) (zz_up1 lv i (.int v)) st σ) : zz_E M sc d rc rz Q pc lv st σ := by
  intro p l e R s m args below meth c ad G cA A mc ms S H locs cells slots ls hc hz hl hS hP
  obtain ⟨k, hk⟩ : ∃ k, (zz_LV ad lv)[k]? = some (i, Value.int x) := by
    have hm : (i, Value.int x) ∈ lv := by
      clear hl K
      induction lv with
      | nil => cases hv
      | cons q lv ih =>
        obtain ⟨a, b⟩ := q
        rw [List.lookup_cons] at hv
        by_cases e : (i == a) = true
        · rw [e] at hv
          simp at e hv
          subst e; subst hv
          exact List.mem_cons_self
        · simp only [Bool.not_eq_true] at e
          rw [e] at hv
          exact List.mem_cons_of_mem _ (ih hv)
    exact List.mem_iff_getElem?.mp (List.mem_map.mpr ⟨(i, Value.int x), hm, rfl⟩)
  exact lv_iinc (v := v) S.1 S.2.1 h hl hk hx hn (zz_LV_up1 ad lv i (.int v)) (fun ls2 hl2 => K p l e R s m args below meth c ad G cA A mc ms S H locs cells slots ls2 hc hz hl2 hS hP)
theorem zz_iadd {x y : Int32} (h : decode M.2.1 pc = .ok (.iadd, 1)) (K : zz_E M sc d rc rz Q (pc + 1) (lv) (.int (x + y) :: st) (σ)) : zz_E M sc d rc rz Q (pc) (lv) (.int y :: .int x :: st) (σ) := by
  intro p l e R s m args below meth c ad G cA A mc ms S H locs cells slots ls hc hz hl hS hP
  exact lv_iadd S.1 S.2.1 h (K p l e R s m args below meth c ad G cA A mc ms S H locs cells slots ls hc hz hl hS hP)
theorem zz_isub {x y : Int32} (h : decode M.2.1 pc = .ok (.isub, 1)) (K : zz_E M sc d rc rz Q (pc + 1) (lv) (.int (x - y) :: st) (σ)) : zz_E M sc d rc rz Q (pc) (lv) (.int y :: .int x :: st) (σ) := by
  intro p l e R s m args below meth c ad G cA A mc ms S H locs cells slots ls hc hz hl hS hP
  exact lv_isub S.1 S.2.1 h (K p l e R s m args below meth c ad G cA A mc ms S H locs cells slots ls hc hz hl hS hP)
theorem zz_imul {x y : Int32} (h : decode M.2.1 pc = .ok (.imul, 1)) (K : zz_E M sc d rc rz Q (pc + 1) (lv) (.int (x * y) :: st) (σ)) : zz_E M sc d rc rz Q (pc) (lv) (.int y :: .int x :: st) (σ) := by
  intro p l e R s m args below meth c ad G cA A mc ms S H locs cells slots ls hc hz hl hS hP
  exact lv_imul S.1 S.2.1 h (K p l e R s m args below meth c ad G cA A mc ms S H locs cells slots ls hc hz hl hS hP)
theorem zz_ladd {x y : Int64} (h : decode M.2.1 pc = .ok (.ladd, 1)) (K : zz_E M sc d rc rz Q (pc + 1) (lv) (.long (x + y) :: st) (σ)) : zz_E M sc d rc rz Q (pc) (lv) (.long y :: .long x :: st) (σ) := by
  intro p l e R s m args below meth c ad G cA A mc ms S H locs cells slots ls hc hz hl hS hP
  exact lv_ladd S.1 S.2.1 h (K p l e R s m args below meth c ad G cA A mc ms S H locs cells slots ls hc hz hl hS hP)
theorem zz_lsub {x y : Int64} (h : decode M.2.1 pc = .ok (.lsub, 1)) (K : zz_E M sc d rc rz Q (pc + 1) (lv) (.long (x - y) :: st) (σ)) : zz_E M sc d rc rz Q (pc) (lv) (.long y :: .long x :: st) (σ) := by
  intro p l e R s m args below meth c ad G cA A mc ms S H locs cells slots ls hc hz hl hS hP
  exact lv_lsub S.1 S.2.1 h (K p l e R s m args below meth c ad G cA A mc ms S H locs cells slots ls hc hz hl hS hP)
theorem zz_land {x y : Int64} (h : decode M.2.1 pc = .ok (.land, 1)) (K : zz_E M sc d rc rz Q (pc + 1) (lv) (.long (x &&& y) :: st) (σ)) : zz_E M sc d rc rz Q (pc) (lv) (.long y :: .long x :: st) (σ) := by
  intro p l e R s m args below meth c ad G cA A mc ms S H locs cells slots ls hc hz hl hS hP
  exact lv_land S.1 S.2.1 h (K p l e R s m args below meth c ad G cA A mc ms S H locs cells slots ls hc hz hl hS hP)
theorem zz_lor {x y : Int64} (h : decode M.2.1 pc = .ok (.lor, 1)) (K : zz_E M sc d rc rz Q (pc + 1) (lv) (.long (x ||| y) :: st) (σ)) : zz_E M sc d rc rz Q (pc) (lv) (.long y :: .long x :: st) (σ) := by
  intro p l e R s m args below meth c ad G cA A mc ms S H locs cells slots ls hc hz hl hS hP
  exact lv_lor S.1 S.2.1 h (K p l e R s m args below meth c ad G cA A mc ms S H locs cells slots ls hc hz hl hS hP)
theorem zz_lxor {x y : Int64} (h : decode M.2.1 pc = .ok (.lxor, 1)) (K : zz_E M sc d rc rz Q (pc + 1) (lv) (.long (x ^^^ y) :: st) (σ)) : zz_E M sc d rc rz Q (pc) (lv) (.long y :: .long x :: st) (σ) := by
  intro p l e R s m args below meth c ad G cA A mc ms S H locs cells slots ls hc hz hl hS hP
  exact lv_lxor S.1 S.2.1 h (K p l e R s m args below meth c ad G cA A mc ms S H locs cells slots ls hc hz hl hS hP)
theorem zz_iand {x y : Int32} (h : decode M.2.1 pc = .ok (.iand, 1)) (K : zz_E M sc d rc rz Q (pc + 1) (lv) (.int (x &&& y) :: st) (σ)) : zz_E M sc d rc rz Q (pc) (lv) (.int y :: .int x :: st) (σ) := by
  intro p l e R s m args below meth c ad G cA A mc ms S H locs cells slots ls hc hz hl hS hP
  exact lv_iand S.1 S.2.1 h (K p l e R s m args below meth c ad G cA A mc ms S H locs cells slots ls hc hz hl hS hP)
theorem zz_lneg {x : Int64} (h : decode M.2.1 pc = .ok (.lneg, 1)) (K : zz_E M sc d rc rz Q (pc + 1) (lv) (.long (-x) :: st) (σ)) : zz_E M sc d rc rz Q (pc) (lv) (.long x :: st) (σ) := by
  intro p l e R s m args below meth c ad G cA A mc ms S H locs cells slots ls hc hz hl hS hP
  exact lv_lneg S.1 S.2.1 h (K p l e R s m args below meth c ad G cA A mc ms S H locs cells slots ls hc hz hl hS hP)
theorem zz_irem {x y : Int32} (h : decode M.2.1 pc = .ok (.irem, 1)) (hy : ¬ y = 0) (K : zz_E M sc d rc rz Q (pc + 1) (lv) (.int (x - x / y * y) :: st) (σ)) : zz_E M sc d rc rz Q (pc) (lv) (.int y :: .int x :: st) (σ) := by
  intro p l e R s m args below meth c ad G cA A mc ms S H locs cells slots ls hc hz hl hS hP
  exact lv_irem S.1 S.2.1 h hy (K p l e R s m args below meth c ad G cA A mc ms S H locs cells slots ls hc hz hl hS hP)
theorem zz_iushr {x y v : Int32} (h : decode M.2.1 pc = .ok (.iushr, 1)) (hv : (x.toUInt32 >>> (y.toUInt32 &&& Int32.toUInt32 31)).toInt32 = v) (K : zz_E M sc d rc rz Q (pc + 1) (lv) (.int v :: st) (σ)) : zz_E M sc d rc rz Q (pc) (lv) (.int y :: .int x :: st) (σ) := by
  intro p l e R s m args below meth c ad G cA A mc ms S H locs cells slots ls hc hz hl hS hP
  exact lv_iushr S.1 S.2.1 h hv (K p l e R s m args below meth c ad G cA A mc ms S H locs cells slots ls hc hz hl hS hP)
theorem zz_lushr {x v : Int64} {y : Int32} (h : decode M.2.1 pc = .ok (.lushr, 1)) (hv : (x.toUInt64 >>> (y.toInt64.toUInt64 &&& Int64.toUInt64 63)).toInt64 = v) (K : zz_E M sc d rc rz Q (pc + 1) (lv) (.long v :: st) (σ)) : zz_E M sc d rc rz Q (pc) (lv) (.int y :: .long x :: st) (σ) := by
  intro p l e R s m args below meth c ad G cA A mc ms S H locs cells slots ls hc hz hl hS hP
  exact lv_lushr S.1 S.2.1 h hv (K p l e R s m args below meth c ad G cA A mc ms S H locs cells slots ls hc hz hl hS hP)
theorem zz_lshl {x v : Int64} {y : Int32} (h : decode M.2.1 pc = .ok (.lshl, 1)) (hv : x <<< (y.toInt64 &&& 63) = v) (K : zz_E M sc d rc rz Q (pc + 1) (lv) (.long v :: st) (σ)) : zz_E M sc d rc rz Q (pc) (lv) (.int y :: .long x :: st) (σ) := by
  intro p l e R s m args below meth c ad G cA A mc ms S H locs cells slots ls hc hz hl hS hP
  exact lv_lshl S.1 S.2.1 h hv (K p l e R s m args below meth c ad G cA A mc ms S H locs cells slots ls hc hz hl hS hP)
theorem zz_i2l {x : Int32} {v : Int64} (h : decode M.2.1 pc = .ok (.i2l, 1)) (hv : x.toInt64 = v) (K : zz_E M sc d rc rz Q (pc + 1) (lv) (.long v :: st) (σ)) : zz_E M sc d rc rz Q (pc) (lv) (.int x :: st) (σ) := by
  intro p l e R s m args below meth c ad G cA A mc ms S H locs cells slots ls hc hz hl hS hP
  exact lv_i2l S.1 S.2.1 h hv (K p l e R s m args below meth c ad G cA A mc ms S H locs cells slots ls hc hz hl hS hP)
theorem zz_i2f {x : Int32} (h : decode M.2.1 pc = .ok (.i2f, 1)) (K : zz_E M sc d rc rz Q (pc + 1) (lv) (.float (FP.i2f x) :: st) (σ)) : zz_E M sc d rc rz Q (pc) (lv) (.int x :: st) (σ) := by
  intro p l e R s m args below meth c ad G cA A mc ms S H locs cells slots ls hc hz hl hS hP
  exact lv_i2f S.1 S.2.1 h (K p l e R s m args below meth c ad G cA A mc ms S H locs cells slots ls hc hz hl hS hP)
theorem zz_i2d {x : Int32} (h : decode M.2.1 pc = .ok (.i2d, 1)) (K : zz_E M sc d rc rz Q (pc + 1) (lv) (.double (FP.i2d x) :: st) (σ)) : zz_E M sc d rc rz Q (pc) (lv) (.int x :: st) (σ) := by
  intro p l e R s m args below meth c ad G cA A mc ms S H locs cells slots ls hc hz hl hS hP
  exact lv_i2d S.1 S.2.1 h (K p l e R s m args below meth c ad G cA A mc ms S H locs cells slots ls hc hz hl hS hP)
theorem zz_f2d {x : UInt32} (h : decode M.2.1 pc = .ok (.f2d, 1)) (hv : vf_n64 (FP.f2d x)) (K : zz_E M sc d rc rz Q (pc + 1) (lv) (.double (FP.f2d x) :: st) (σ)) : zz_E M sc d rc rz Q (pc) (lv) (.float x :: st) (σ) := by
  intro p l e R s m args below meth c ad G cA A mc ms S H locs cells slots ls hc hz hl hS hP
  exact lv_f2d S.1 S.2.1 h hv (K p l e R s m args below meth c ad G cA A mc ms S H locs cells slots ls hc hz hl hS hP)
theorem zz_ddiv {x y : UInt64} (h : decode M.2.1 pc = .ok (.ddiv, 1)) (hv : vf_n64 (FP.ddiv x y)) (K : zz_E M sc d rc rz Q (pc + 1) (lv) (.double (FP.ddiv x y) :: st) (σ)) : zz_E M sc d rc rz Q (pc) (lv) (.double y :: .double x :: st) (σ) := by
  intro p l e R s m args below meth c ad G cA A mc ms S H locs cells slots ls hc hz hl hS hP
  exact lv_ddiv S.1 S.2.1 h hv (K p l e R s m args below meth c ad G cA A mc ms S H locs cells slots ls hc hz hl hS hP)
theorem zz_fdiv {x y : UInt32} (h : decode M.2.1 pc = .ok (.fdiv, 1)) (hv : vf_n32 (FP.fdiv x y)) (K : zz_E M sc d rc rz Q (pc + 1) (lv) (.float (FP.fdiv x y) :: st) (σ)) : zz_E M sc d rc rz Q (pc) (lv) (.float y :: .float x :: st) (σ) := by
  intro p l e R s m args below meth c ad G cA A mc ms S H locs cells slots ls hc hz hl hS hP
  exact lv_fdiv S.1 S.2.1 h hv (K p l e R s m args below meth c ad G cA A mc ms S H locs cells slots ls hc hz hl hS hP)
theorem zz_lcmp {x y : Int64} (h : decode M.2.1 pc = .ok (.lcmp, 1)) (K : zz_E M sc d rc rz Q (pc + 1) (lv) (.int (lg_cmp x y) :: st) (σ)) : zz_E M sc d rc rz Q (pc) (lv) (.long y :: .long x :: st) (σ) := by
  intro p l e R s m args below meth c ad G cA A mc ms S H locs cells slots ls hc hz hl hS hP
  exact W.lcmp S.1 S.2.1 h (K p l e R s m args below meth c ad G cA A mc ms S H locs cells slots ls hc hz hl hS hP)
theorem zz_dcmp {x y : UInt64} {op : CmpOp} (h : decode M.2.1 pc = .ok (.dcmp op, 1)) (K : zz_E M sc d rc rz Q (pc + 1) (lv) (.int (Op.cmpValue (FP.dcmp x y) op) :: st) (σ)) : zz_E M sc d rc rz Q (pc) (lv) (.double y :: .double x :: st) (σ) := by
  intro p l e R s m args below meth c ad G cA A mc ms S H locs cells slots ls hc hz hl hS hP
  exact lv_dcmp S.1 S.2.1 h (K p l e R s m args below meth c ad G cA A mc ms S H locs cells slots ls hc hz hl hS hP)
theorem zz_fcmp {x y : UInt32} {op : CmpOp} (h : decode M.2.1 pc = .ok (.fcmp op, 1)) (K : zz_E M sc d rc rz Q (pc + 1) (lv) (.int (Op.cmpValue (FP.fcmp x y) op) :: st) (σ)) : zz_E M sc d rc rz Q (pc) (lv) (.float y :: .float x :: st) (σ) := by
  intro p l e R s m args below meth c ad G cA A mc ms S H locs cells slots ls hc hz hl hS hP
  exact lv_fcmp S.1 S.2.1 h (K p l e R s m args below meth c ad G cA A mc ms S H locs cells slots ls hc hz hl hS hP)
theorem zz_dup {v : Value} (h : decode M.2.1 pc = .ok (.dup, 1)) (hv : v.category = 1) (K : zz_E M sc d rc rz Q (pc + 1) (lv) (v :: v :: st) (σ)) : zz_E M sc d rc rz Q (pc) (lv) (v :: st) (σ) := by
  intro p l e R s m args below meth c ad G cA A mc ms S H locs cells slots ls hc hz hl hS hP
  exact lv_dup S.1 S.2.1 h (by rw [zz_cat]; exact hv) (K p l e R s m args below meth c ad G cA A mc ms S H locs cells slots ls hc hz hl hS hP)
theorem zz_dconst0  (h : decode M.2.1 pc = .ok (.dconst 0, 1)) (K : zz_E M sc d rc rz Q (pc + 1) (lv) (.double FP.dconst0 :: st) (σ)) : zz_E M sc d rc rz Q (pc) (lv) (st) (σ) := by
  intro p l e R s m args below meth c ad G cA A mc ms S H locs cells slots ls hc hz hl hS hP
  exact lv_dconst0 S.1 S.2.1 h (K p l e R s m args below meth c ad G cA A mc ms S H locs cells slots ls hc hz hl hS hP)
theorem zz_fconst0  (h : decode M.2.1 pc = .ok (.fconst 0, 1)) (K : zz_E M sc d rc rz Q (pc + 1) (lv) (.float FP.fconst0 :: st) (σ)) : zz_E M sc d rc rz Q (pc) (lv) (st) (σ) := by
  intro p l e R s m args below meth c ad G cA A mc ms S H locs cells slots ls hc hz hl hS hP
  exact lv_fconst0 S.1 S.2.1 h (K p l e R s m args below meth c ad G cA A mc ms S H locs cells slots ls hc hz hl hS hP)
theorem zz_if_eq {x : Int32} {off : Int} {tgt : Nat} (h : decode M.2.1 pc = .ok (.ifCond .eq off, 3)) (ht : (pc : Int) + off = (tgt : Int)) (Kt : x = 0 → zz_E M sc d rc rz Q (tgt) (lv) (st) (σ)) (Kf : ¬ x = 0 → zz_E M sc d rc rz Q (pc + 3) (lv) (st) (σ)) : zz_E M sc d rc rz Q (pc) (lv) (.int x :: st) (σ) := by
  intro p l e R s m args below meth c ad G cA A mc ms S H locs cells slots ls hc hz hl hS hP
  exact lv_if_eq S.1 S.2.1 h ht (fun q => Kt q p l e R s m args below meth c ad G cA A mc ms S H locs cells slots ls hc hz hl hS hP) (fun q => Kf q p l e R s m args below meth c ad G cA A mc ms S H locs cells slots ls hc hz hl hS hP)
theorem zz_icmp_eq {x y : Int32} {off : Int} {tgt : Nat} (h : decode M.2.1 pc = .ok (.if_icmp .eq off, 3)) (ht : (pc : Int) + off = (tgt : Int)) (Kt : x = y → zz_E M sc d rc rz Q (tgt) (lv) (st) (σ)) (Kf : ¬ x = y → zz_E M sc d rc rz Q (pc + 3) (lv) (st) (σ)) : zz_E M sc d rc rz Q (pc) (lv) (.int y :: .int x :: st) (σ) := by
  intro p l e R s m args below meth c ad G cA A mc ms S H locs cells slots ls hc hz hl hS hP
  exact lv_icmp_eq S.1 S.2.1 h ht (fun q => Kt q p l e R s m args below meth c ad G cA A mc ms S H locs cells slots ls hc hz hl hS hP) (fun q => Kf q p l e R s m args below meth c ad G cA A mc ms S H locs cells slots ls hc hz hl hS hP)
theorem zz_if_ne {x : Int32} {off : Int} {tgt : Nat} (h : decode M.2.1 pc = .ok (.ifCond .ne off, 3)) (ht : (pc : Int) + off = (tgt : Int)) (Kt : ¬ x = 0 → zz_E M sc d rc rz Q (tgt) (lv) (st) (σ)) (Kf : x = 0 → zz_E M sc d rc rz Q (pc + 3) (lv) (st) (σ)) : zz_E M sc d rc rz Q (pc) (lv) (.int x :: st) (σ) := by
  intro p l e R s m args below meth c ad G cA A mc ms S H locs cells slots ls hc hz hl hS hP
  exact lv_if_ne S.1 S.2.1 h ht (fun q => Kt q p l e R s m args below meth c ad G cA A mc ms S H locs cells slots ls hc hz hl hS hP) (fun q => Kf q p l e R s m args below meth c ad G cA A mc ms S H locs cells slots ls hc hz hl hS hP)
theorem zz_icmp_ne {x y : Int32} {off : Int} {tgt : Nat} (h : decode M.2.1 pc = .ok (.if_icmp .ne off, 3)) (ht : (pc : Int) + off = (tgt : Int)) (Kt : ¬ x = y → zz_E M sc d rc rz Q (tgt) (lv) (st) (σ)) (Kf : x = y → zz_E M sc d rc rz Q (pc + 3) (lv) (st) (σ)) : zz_E M sc d rc rz Q (pc) (lv) (.int y :: .int x :: st) (σ) := by
  intro p l e R s m args below meth c ad G cA A mc ms S H locs cells slots ls hc hz hl hS hP
  exact lv_icmp_ne S.1 S.2.1 h ht (fun q => Kt q p l e R s m args below meth c ad G cA A mc ms S H locs cells slots ls hc hz hl hS hP) (fun q => Kf q p l e R s m args below meth c ad G cA A mc ms S H locs cells slots ls hc hz hl hS hP)
theorem zz_if_lt {x : Int32} {off : Int} {tgt : Nat} (h : decode M.2.1 pc = .ok (.ifCond .lt off, 3)) (ht : (pc : Int) + off = (tgt : Int)) (Kt : x < 0 → zz_E M sc d rc rz Q (tgt) (lv) (st) (σ)) (Kf : ¬ x < 0 → zz_E M sc d rc rz Q (pc + 3) (lv) (st) (σ)) : zz_E M sc d rc rz Q (pc) (lv) (.int x :: st) (σ) := by
  intro p l e R s m args below meth c ad G cA A mc ms S H locs cells slots ls hc hz hl hS hP
  exact lv_if_lt S.1 S.2.1 h ht (fun q => Kt q p l e R s m args below meth c ad G cA A mc ms S H locs cells slots ls hc hz hl hS hP) (fun q => Kf q p l e R s m args below meth c ad G cA A mc ms S H locs cells slots ls hc hz hl hS hP)
theorem zz_icmp_lt {x y : Int32} {off : Int} {tgt : Nat} (h : decode M.2.1 pc = .ok (.if_icmp .lt off, 3)) (ht : (pc : Int) + off = (tgt : Int)) (Kt : x < y → zz_E M sc d rc rz Q (tgt) (lv) (st) (σ)) (Kf : ¬ x < y → zz_E M sc d rc rz Q (pc + 3) (lv) (st) (σ)) : zz_E M sc d rc rz Q (pc) (lv) (.int y :: .int x :: st) (σ) := by
  intro p l e R s m args below meth c ad G cA A mc ms S H locs cells slots ls hc hz hl hS hP
  exact lv_icmp_lt S.1 S.2.1 h ht (fun q => Kt q p l e R s m args below meth c ad G cA A mc ms S H locs cells slots ls hc hz hl hS hP) (fun q => Kf q p l e R s m args below meth c ad G cA A mc ms S H locs cells slots ls hc hz hl hS hP)
theorem zz_if_gt {x : Int32} {off : Int} {tgt : Nat} (h : decode M.2.1 pc = .ok (.ifCond .gt off, 3)) (ht : (pc : Int) + off = (tgt : Int)) (Kt : 0 < x → zz_E M sc d rc rz Q (tgt) (lv) (st) (σ)) (Kf : ¬ 0 < x → zz_E M sc d rc rz Q (pc + 3) (lv) (st) (σ)) : zz_E M sc d rc rz Q (pc) (lv) (.int x :: st) (σ) := by
  intro p l e R s m args below meth c ad G cA A mc ms S H locs cells slots ls hc hz hl hS hP
  exact lv_if_gt S.1 S.2.1 h ht (fun q => Kt q p l e R s m args below meth c ad G cA A mc ms S H locs cells slots ls hc hz hl hS hP) (fun q => Kf q p l e R s m args below meth c ad G cA A mc ms S H locs cells slots ls hc hz hl hS hP)
theorem zz_icmp_gt {x y : Int32} {off : Int} {tgt : Nat} (h : decode M.2.1 pc = .ok (.if_icmp .gt off, 3)) (ht : (pc : Int) + off = (tgt : Int)) (Kt : y < x → zz_E M sc d rc rz Q (tgt) (lv) (st) (σ)) (Kf : ¬ y < x → zz_E M sc d rc rz Q (pc + 3) (lv) (st) (σ)) : zz_E M sc d rc rz Q (pc) (lv) (.int y :: .int x :: st) (σ) := by
  intro p l e R s m args below meth c ad G cA A mc ms S H locs cells slots ls hc hz hl hS hP
  exact lv_icmp_gt S.1 S.2.1 h ht (fun q => Kt q p l e R s m args below meth c ad G cA A mc ms S H locs cells slots ls hc hz hl hS hP) (fun q => Kf q p l e R s m args below meth c ad G cA A mc ms S H locs cells slots ls hc hz hl hS hP)
theorem zz_if_le {x : Int32} {off : Int} {tgt : Nat} (h : decode M.2.1 pc = .ok (.ifCond .le off, 3)) (ht : (pc : Int) + off = (tgt : Int)) (Kt : x ≤ 0 → zz_E M sc d rc rz Q (tgt) (lv) (st) (σ)) (Kf : ¬ x ≤ 0 → zz_E M sc d rc rz Q (pc + 3) (lv) (st) (σ)) : zz_E M sc d rc rz Q (pc) (lv) (.int x :: st) (σ) := by
  intro p l e R s m args below meth c ad G cA A mc ms S H locs cells slots ls hc hz hl hS hP
  exact lv_if_le S.1 S.2.1 h ht (fun q => Kt q p l e R s m args below meth c ad G cA A mc ms S H locs cells slots ls hc hz hl hS hP) (fun q => Kf q p l e R s m args below meth c ad G cA A mc ms S H locs cells slots ls hc hz hl hS hP)
theorem zz_icmp_le {x y : Int32} {off : Int} {tgt : Nat} (h : decode M.2.1 pc = .ok (.if_icmp .le off, 3)) (ht : (pc : Int) + off = (tgt : Int)) (Kt : x ≤ y → zz_E M sc d rc rz Q (tgt) (lv) (st) (σ)) (Kf : ¬ x ≤ y → zz_E M sc d rc rz Q (pc + 3) (lv) (st) (σ)) : zz_E M sc d rc rz Q (pc) (lv) (.int y :: .int x :: st) (σ) := by
  intro p l e R s m args below meth c ad G cA A mc ms S H locs cells slots ls hc hz hl hS hP
  exact lv_icmp_le S.1 S.2.1 h ht (fun q => Kt q p l e R s m args below meth c ad G cA A mc ms S H locs cells slots ls hc hz hl hS hP) (fun q => Kf q p l e R s m args below meth c ad G cA A mc ms S H locs cells slots ls hc hz hl hS hP)
theorem zz_if_ge {x : Int32} {off : Int} {tgt : Nat} (h : decode M.2.1 pc = .ok (.ifCond .ge off, 3)) (ht : (pc : Int) + off = (tgt : Int)) (Kt : 0 ≤ x → zz_E M sc d rc rz Q (tgt) (lv) (st) (σ)) (Kf : ¬ 0 ≤ x → zz_E M sc d rc rz Q (pc + 3) (lv) (st) (σ)) : zz_E M sc d rc rz Q (pc) (lv) (.int x :: st) (σ) := by
  intro p l e R s m args below meth c ad G cA A mc ms S H locs cells slots ls hc hz hl hS hP
  exact lv_if_ge S.1 S.2.1 h ht (fun q => Kt q p l e R s m args below meth c ad G cA A mc ms S H locs cells slots ls hc hz hl hS hP) (fun q => Kf q p l e R s m args below meth c ad G cA A mc ms S H locs cells slots ls hc hz hl hS hP)
theorem zz_icmp_ge {x y : Int32} {off : Int} {tgt : Nat} (h : decode M.2.1 pc = .ok (.if_icmp .ge off, 3)) (ht : (pc : Int) + off = (tgt : Int)) (Kt : y ≤ x → zz_E M sc d rc rz Q (tgt) (lv) (st) (σ)) (Kf : ¬ y ≤ x → zz_E M sc d rc rz Q (pc + 3) (lv) (st) (σ)) : zz_E M sc d rc rz Q (pc) (lv) (.int y :: .int x :: st) (σ) := by
  intro p l e R s m args below meth c ad G cA A mc ms S H locs cells slots ls hc hz hl hS hP
  exact lv_icmp_ge S.1 S.2.1 h ht (fun q => Kt q p l e R s m args below meth c ad G cA A mc ms S H locs cells slots ls hc hz hl hS hP) (fun q => Kf q p l e R s m args below meth c ad G cA A mc ms S H locs cells slots ls hc hz hl hS hP)
theorem zz_goto {off : Int} {tgt : Nat} (h : decode M.2.1 pc = .ok (.goto off, 3)) (ht : (pc : Int) + off = (tgt : Int)) (K : zz_E M sc d rc rz Q (tgt) (lv) (st) (σ)) : zz_E M sc d rc rz Q (pc) (lv) (st) (σ) := by
  intro p l e R s m args below meth c ad G cA A mc ms S H locs cells slots ls hc hz hl hS hP
  exact lv_goto S.1 S.2.1 h ht (K p l e R s m args below meth c ad G cA A mc ms S H locs cells slots ls hc hz hl hS hP)
theorem zz_ifnonnull {x : Nat} {off : Int} {tgt : Nat} (h : decode M.2.1 pc = .ok (.ifnonnull off, 3)) (ht : (pc : Int) + off = (tgt : Int)) (K : zz_E M sc d rc rz Q (tgt) (lv) (st) (σ)) : zz_E M sc d rc rz Q (pc) (lv) (.ref x :: st) (σ) := by
  intro p l e R s m args below meth c ad G cA A mc ms S H locs cells slots ls hc hz hl hS hP
  exact lv_ifnonnull S.1 S.2.1 h ht (K p l e R s m args below meth c ad G cA A mc ms S H locs cells slots ls hc hz hl hS hP)
theorem zz_tableIn {dflt lo hi : Int} {offs : Array Int} {len : Nat} {x : Int32} {off : Int} {tgt : Nat} (h : decode M.2.1 pc = .ok (.tableswitch dflt lo hi offs, len)) (h1 : ¬ x.toInt < lo) (h2 : ¬ hi < x.toInt) (ho : offs[(x.toInt - lo).toNat]? = some off) (ht : (pc : Int) + off = (tgt : Int)) (K : zz_E M sc d rc rz Q (tgt) (lv) (st) (σ)) : zz_E M sc d rc rz Q (pc) (lv) (.int x :: st) (σ) := by
  intro p l e R s m args below meth c ad G cA A mc ms S H locs cells slots ls hc hz hl hS hP
  exact lv_tableIn S.1 S.2.1 h h1 h2 ho ht (K p l e R s m args below meth c ad G cA A mc ms S H locs cells slots ls hc hz hl hS hP)
theorem zz_tableOut {dflt lo hi : Int} {offs : Array Int} {len : Nat} {x : Int32} {tgt : Nat} (h : decode M.2.1 pc = .ok (.tableswitch dflt lo hi offs, len)) (h1 : x.toInt < lo ∨ hi < x.toInt) (ht : (pc : Int) + dflt = (tgt : Int)) (K : zz_E M sc d rc rz Q (tgt) (lv) (st) (σ)) : zz_E M sc d rc rz Q (pc) (lv) (.int x :: st) (σ) := by
  intro p l e R s m args below meth c ad G cA A mc ms S H locs cells slots ls hc hz hl hS hP
  exact lv_tableOut S.1 S.2.1 h h1 ht (K p l e R s m args below meth c ad G cA A mc ms S H locs cells slots ls hc hz hl hS hP)
theorem zz_lookup {dflt : Int} {ps : Array (Int × Int)} {len : Nat} {x : Int32} {off : Int} {tgt : Nat} (h : decode M.2.1 pc = .ok (.lookupswitch dflt ps, len)) (hp : (ps.toList.zip (ps.toList.drop 1)).all (fun (a, next) => a.1 < next.1) = true) (ho : Op.lookupswitch.offset ps.toList dflt x.toInt = off) (ht : (pc : Int) + off = (tgt : Int)) (K : zz_E M sc d rc rz Q (tgt) (lv) (st) (σ)) : zz_E M sc d rc rz Q (pc) (lv) (.int x :: st) (σ) := by
  intro p l e R s m args below meth c ad G cA A mc ms S H locs cells slots ls hc hz hl hS hP
  exact lv_lookup S.1 S.2.1 h hp ho ht (K p l e R s m args below meth c ad G cA A mc ms S H locs cells slots ls hc hz hl hS hP)
theorem zz_get {C ref : String} {T : u_T} {N ci i q j : Nat} {fs : List Value} {v : Value} (hin : ∀ w ∈ u_ws C T N, w ∈ zz_g) (hc0 : vwCl[ci]? = some (C, T, N)) (hw : Cond.fieldLink M.2.2.2.2.1 i ref (T j).2.1 (T j).2.2.1 ∈ zz_g) (hsame : (T j).1 = ref) (hj : j < N) (h : decode M.2.1 pc = .ok (.getfield i, 3)) (hq : q < 58 + zz_k σ) (hs : σ q = .inr (ci, fs)) (hv : fs[j]? = some v) (K : zz_E M sc d rc rz Q (pc + 3) lv (v :: st) σ) : zz_E M sc d rc rz Q pc lv (.ref q :: st) σ := by
  intro p l e R s m args below meth c ad G cA A mc ms S H locs cells slots ls hc hz hl hS hP
  have he : (zz_W ad cA σ)[q]? = some (ad q, .inr (ci, fs.map (zz_V ad))) := by rw [zz_W_get hq, hs]; rfl
  exact va_get S.1 S.2.1 S.2.2.2.2.2.2.1 hin S.2.2.2.2.2.1 S.2.2.2.2.2.2.2.2.1 hP q he hc0 j hj (S.2.2.2.2.2.2.1 _ hw) (fun x hx => by rw [← hsame]; exact hx) (by rw [List.getElem?_map, hv]; rfl) h (K p l e R s m args below meth c ad G cA A mc ms S H locs cells slots ls hc hz hl hS hP)
theorem zz_put {C ref : String} {T : u_T} {N ci i q j : Nat} {fs : List Value} {v : Value} {ty : FieldType} (hin : ∀ w ∈ u_ws C T N, w ∈ zz_g) (ty0 : Nat → FieldType) (hty : ∀ k, k < N → parseFieldDescriptor (T k).2.2.1 = some (ty0 k)) (hnm : ∀ a, a < N → ∀ b, b < N → a ≠ b → (T a).2.1 ≠ (T b).2.1) (hc0 : vwCl[ci]? = some (C, T, N)) (hw : Cond.fieldLink M.2.2.2.2.1 i ref (T j).2.1 (T j).2.2.1 ∈ zz_g) (hsame : (T j).1 = ref) (hj : j < N) (hfin : (T j).2.2.2 = false) (hd : parseFieldDescriptor (T j).2.2.1 = some ty) (hn : ∀ ad, narrow ty (zz_V ad v) = zz_V ad v) (hfit : ∀ ad, fits ty (zz_V ad v) = true) (h : decode M.2.1 pc = .ok (.putfield i, 3)) (hq : q < 58 + zz_k σ) (hs : σ q = .inr (ci, fs)) (hlen : j < fs.length) (K : zz_E M sc d rc rz Q (pc + 3) lv st (va_up σ q (.inr (ci, fs.set j v)))) : zz_E M sc d rc rz Q pc lv (v :: .ref q :: st) σ := by
  intro p l e R s m args below meth c ad G cA A mc ms S H locs cells slots ls hc hz hl hS hP
  have he : (zz_W ad cA σ)[q]? = some (ad q, .inr (ci, fs.map (zz_V ad))) := by rw [zz_W_get hq, hs]; rfl
  refine va_put S.1 S.2.1 S.2.2.2.2.2.2.1 hin ty0 hty hnm S.2.2.2.2.2.1 S.2.2.2.2.2.2.2.2.1 hP (zz_D S.2.2.2.2.2.2.2.2.2.1 S.2.2.2.2.2.2.2.2.2.2.1) hS q he hc0 j hj (S.2.2.2.2.2.2.1 _ hw) (fun x hx => by rw [← hsame]; exact hx) hfin hd (hn ad) (hfit ad) (by simpa using hlen) h (fun H1 locs1 hP1 _ hS1 => ?_)
  have e1 : (zz_W ad cA σ).set q (ad q, .inr (ci, (fs.map (zz_V ad)).set j (zz_V ad v))) = zz_W ad cA (va_up σ q (.inr (ci, fs.set j v))) := by
    rw [← List.map_set]
    exact zz_W_set hq (.inr (ci, fs.set j v))
  rw [e1] at hP1
  exact K p l e R s m args below meth c ad G cA A mc ms S H1 locs1 cells slots ls hc hz hl hS1 hP1
theorem zz_iald {q n : Nat} {f : Nat → Int32} {i : Int32} (h : decode M.2.1 pc = .ok (.iaload, 1)) (hq : q < 58 + zz_k σ) (hs : σ q = .inl (0, n, .inl f)) (hin : vp_in i n) (K : zz_E M sc d rc rz Q (pc + 1) lv (.int (f i.toNatClampNeg) :: st) σ) : zz_E M sc d rc rz Q pc lv (.int i :: .ref q :: st) σ := by
  intro p l e R s m args below meth c ad G cA A mc ms S H locs cells slots ls hc hz hl hS hP
  have he : (zz_W ad cA σ)[q]? = some (ad q, .inl (cA 0, n, .inl f)) := by rw [zz_W_get hq, hs]; rfl
  exact va_iald S.1 S.2.1 S.2.2.2.2.2.2.2.2.1 hP q 0 he rfl hin h (K p l e R s m args below meth c ad G cA A mc ms S H locs cells slots ls hc hz hl hS hP)
theorem zz_lald {q n : Nat} {f : Nat → Int64} {i : Int32} (h : decode M.2.1 pc = .ok (.laload, 1)) (hq : q < 58 + zz_k σ) (hs : σ q = .inl (1, n, .inr (.inl f))) (hin : vp_in i n) (K : zz_E M sc d rc rz Q (pc + 1) lv (.long (f i.toNatClampNeg) :: st) σ) : zz_E M sc d rc rz Q pc lv (.int i :: .ref q :: st) σ := by
  intro p l e R s m args below meth c ad G cA A mc ms S H locs cells slots ls hc hz hl hS hP
  have he : (zz_W ad cA σ)[q]? = some (ad q, .inl (cA 1, n, .inr (.inl f))) := by rw [zz_W_get hq, hs]; rfl
  exact va_lald S.1 S.2.1 S.2.2.2.2.2.2.2.2.1 hP q 1 he rfl hin h (K p l e R s m args below meth c ad G cA A mc ms S H locs cells slots ls hc hz hl hS hP)
theorem zz_zald {q n : Nat} {f : Nat → Int32} {i : Int32} (h : decode M.2.1 pc = .ok (.baload, 1)) (hq : q < 58 + zz_k σ) (hs : σ q = .inl (2, n, .inl f)) (hin : vp_in i n) (K : zz_E M sc d rc rz Q (pc + 1) lv (.int (f i.toNatClampNeg) :: st) σ) : zz_E M sc d rc rz Q pc lv (.int i :: .ref q :: st) σ := by
  intro p l e R s m args below meth c ad G cA A mc ms S H locs cells slots ls hc hz hl hS hP
  have he : (zz_W ad cA σ)[q]? = some (ad q, .inl (cA 2, n, .inl f)) := by rw [zz_W_get hq, hs]; rfl
  exact va_zald S.1 S.2.1 S.2.2.2.2.2.2.2.2.1 hP q 2 he rfl hin h (K p l e R s m args below meth c ad G cA A mc ms S H locs cells slots ls hc hz hl hS hP)
theorem zz_iast {q n : Nat} {f : Nat → Int32} {i : Int32} {x : Int32} (h : decode M.2.1 pc = .ok (.iastore, 1)) (hq : q < 58 + zz_k σ) (hs : σ q = .inl (0, n, .inl (f))) (hin : vp_in i n) (K : zz_E M sc d rc rz Q (pc + 1) lv st (va_up σ q (.inl (0, n, .inl (va_up f i.toNatClampNeg x))))) : zz_E M sc d rc rz Q pc lv (.int x :: .int i :: .ref q :: st) σ := by
  intro p l e R s m args below meth c ad G cA A mc ms S H locs cells slots ls hc hz hl hS hP
  have he : (zz_W ad cA σ)[q]? = some (ad q, .inl (cA 0, n, .inl (f))) := by rw [zz_W_get hq, hs]; rfl
  refine va_iast S.1 S.2.1 S.2.2.2.2.2.2.2.2.1 hP (zz_D S.2.2.2.2.2.2.2.2.2.1 S.2.2.2.2.2.2.2.2.2.2.1) hS q 0 he rfl hin h (fun H1 locs1 hP1 _ hS1 => ?_)
  have e1 : (zz_W ad cA σ).set q (ad q, .inl (cA 0, n, .inl (va_up f i.toNatClampNeg x))) = zz_W ad cA (va_up σ q (.inl (0, n, .inl (va_up f i.toNatClampNeg x)))) := zz_W_set hq (.inl (0, n, .inl (va_up f i.toNatClampNeg x)))
  exact K p l e R s m args below meth c ad G cA A mc ms S H1 locs1 cells slots ls hc hz hl hS1 (by rw [← e1]; exact hP1)
theorem zz_last {q n : Nat} {f : Nat → Int64} {i : Int32} {x : Int64} (h : decode M.2.1 pc = .ok (.lastore, 1)) (hq : q < 58 + zz_k σ) (hs : σ q = .inl (1, n, .inr (.inl (f)))) (hin : vp_in i n) (K : zz_E M sc d rc rz Q (pc + 1) lv st (va_up σ q (.inl (1, n, .inr (.inl (va_up f i.toNatClampNeg x)))))) : zz_E M sc d rc rz Q pc lv (.long x :: .int i :: .ref q :: st) σ := by
  intro p l e R s m args below meth c ad G cA A mc ms S H locs cells slots ls hc hz hl hS hP
  have he : (zz_W ad cA σ)[q]? = some (ad q, .inl (cA 1, n, .inr (.inl (f)))) := by rw [zz_W_get hq, hs]; rfl
  refine va_last S.1 S.2.1 S.2.2.2.2.2.2.2.2.1 hP (zz_D S.2.2.2.2.2.2.2.2.2.1 S.2.2.2.2.2.2.2.2.2.2.1) hS q 1 he rfl hin h (fun H1 locs1 hP1 _ hS1 => ?_)
  have e1 : (zz_W ad cA σ).set q (ad q, .inl (cA 1, n, .inr (.inl (va_up f i.toNatClampNeg x)))) = zz_W ad cA (va_up σ q (.inl (1, n, .inr (.inl (va_up f i.toNatClampNeg x))))) := zz_W_set hq (.inl (1, n, .inr (.inl (va_up f i.toNatClampNeg x))))
  exact K p l e R s m args below meth c ad G cA A mc ms S H1 locs1 cells slots ls hc hz hl hS1 (by rw [← e1]; exact hP1)
theorem zz_zast {q n : Nat} {f : Nat → Int32} {i : Int32} {x : Int32} (h : decode M.2.1 pc = .ok (.bastore, 1)) (hq : q < 58 + zz_k σ) (hs : σ q = .inl (2, n, .inl (f))) (hin : vp_in i n) (K : zz_E M sc d rc rz Q (pc + 1) lv st (va_up σ q (.inl (2, n, .inl (va_up f i.toNatClampNeg (vp_nar .boolean x)))))) : zz_E M sc d rc rz Q pc lv (.int x :: .int i :: .ref q :: st) σ := by
  intro p l e R s m args below meth c ad G cA A mc ms S H locs cells slots ls hc hz hl hS hP
  have he : (zz_W ad cA σ)[q]? = some (ad q, .inl (cA 2, n, .inl (f))) := by rw [zz_W_get hq, hs]; rfl
  refine va_zast S.1 S.2.1 S.2.2.2.2.2.2.2.2.1 hP (zz_D S.2.2.2.2.2.2.2.2.2.1 S.2.2.2.2.2.2.2.2.2.2.1) hS q 2 he rfl hin h (fun H1 locs1 hP1 _ hS1 => ?_)
  have e1 : (zz_W ad cA σ).set q (ad q, .inl (cA 2, n, .inl (va_up f i.toNatClampNeg (vp_nar .boolean x)))) = zz_W ad cA (va_up σ q (.inl (2, n, .inl (va_up f i.toNatClampNeg (vp_nar .boolean x))))) := zz_W_set hq (.inl (2, n, .inl (va_up f i.toNatClampNeg (vp_nar .boolean x))))
  exact K p l e R s m args below meth c ad G cA A mc ms S H1 locs1 cells slots ls hc hz hl hS1 (by rw [← e1]; exact hP1)
theorem zz_aald {q n : Nat} {f : Nat → Option Nat} {i : Int32} {y : Nat} (h : decode M.2.1 pc = .ok (.aaload, 1)) (hq : q < 58 + zz_k σ) (hs : σ q = .inl (3, n, .inr (.inr (.inr (.inr f))))) (hin : vp_in i n) (hy : f i.toNatClampNeg = some y) (K : zz_E M sc d rc rz Q (pc + 1) lv (.ref y :: st) σ) : zz_E M sc d rc rz Q pc lv (.int i :: .ref q :: st) σ := by
  intro p l e R s m args below meth c ad G cA A mc ms S H locs cells slots ls hc hz hl hS hP
  have he : (zz_W ad cA σ)[q]? = some (ad q, .inl (cA 3, n, .inr (.inr (.inr (.inr (fun i => (f i).map ad)))))) := by rw [zz_W_get hq, hs]; rfl
  refine va_aldq S.1 S.2.1 S.2.2.2.2.2.2.2.2.1 hP q 3 he rfl hin h ?_
  have e1 : va_rf ((f i.toNatClampNeg).map ad) = .ref (ad y) := by rw [hy]; rfl
  rw [e1]
  exact K p l e R s m args below meth c ad G cA A mc ms S H locs cells slots ls hc hz hl hS hP
theorem zz_alen0 {q n : Nat} {f : Nat → Int32} {v : Int32} (h : decode M.2.1 pc = .ok (.arraylength, 1)) (hq : q < 58 + zz_k σ) (hs : σ q = .inl (0, n, .inl f)) (hv : Int32.ofNat n = v) (K : zz_E M sc d rc rz Q (pc + 1) lv (.int v :: st) σ) : zz_E M sc d rc rz Q pc lv (.ref q :: st) σ := by
  intro p l e R s m args below meth c ad G cA A mc ms S H locs cells slots ls hc hz hl hS hP
  have he : (zz_W ad cA σ)[q]? = some (ad q, .inl (cA 0, n, .inl f)) := by rw [zz_W_get hq, hs]; rfl
  exact va_alen S.1 S.2.1 S.2.2.2.2.2.2.2.2.1 hP q 0 he (ty := .int) rfl hv h (K p l e R s m args below meth c ad G cA A mc ms S H locs cells slots ls hc hz hl hS hP)
theorem zz_alen1 {q n : Nat} {f : Nat → Int64} {v : Int32} (h : decode M.2.1 pc = .ok (.arraylength, 1)) (hq : q < 58 + zz_k σ) (hs : σ q = .inl (1, n, .inr (.inl f))) (hv : Int32.ofNat n = v) (K : zz_E M sc d rc rz Q (pc + 1) lv (.int v :: st) σ) : zz_E M sc d rc rz Q pc lv (.ref q :: st) σ := by
  intro p l e R s m args below meth c ad G cA A mc ms S H locs cells slots ls hc hz hl hS hP
  have he : (zz_W ad cA σ)[q]? = some (ad q, .inl (cA 1, n, .inr (.inl f))) := by rw [zz_W_get hq, hs]; rfl
  exact va_alen S.1 S.2.1 S.2.2.2.2.2.2.2.2.1 hP q 1 he (ty := .long) rfl hv h (K p l e R s m args below meth c ad G cA A mc ms S H locs cells slots ls hc hz hl hS hP)
theorem zz_alen3 {q n : Nat} {f : Nat → Option Nat} {v : Int32} (h : decode M.2.1 pc = .ok (.arraylength, 1)) (hq : q < 58 + zz_k σ) (hs : σ q = .inl (3, n, .inr (.inr (.inr (.inr f))))) (hv : Int32.ofNat n = v) (K : zz_E M sc d rc rz Q (pc + 1) lv (.int v :: st) σ) : zz_E M sc d rc rz Q pc lv (.ref q :: st) σ := by
  intro p l e R s m args below meth c ad G cA A mc ms S H locs cells slots ls hc hz hl hS hP
  have he : (zz_W ad cA σ)[q]? = some (ad q, .inl (cA 3, n, .inr (.inr (.inr (.inr (fun i => (f i).map ad)))))) := by rw [zz_W_get hq, hs]; rfl
  exact va_alen S.1 S.2.1 S.2.2.2.2.2.2.2.2.1 hP q 3 he (ty := .object RX1) rfl hv h (K p l e R s m args below meth c ad G cA A mc ms S H locs cells slots ls hc hz hl hS hP)
theorem zz_slen {L : Nat} {xs : Nat → Int32} (h : decode M.2.1 pc = .ok (.arraylength, 1)) (K : zz_E M (some (L, xs)) d rc rz Q (pc + 1) lv (.int (Int32.ofNat L) :: st) σ) : zz_E M (some (L, xs)) d rc rz Q pc lv (.ref 68 :: st) σ := by
  intro p l e R s m args below meth c ad G cA A mc ms S H locs cells slots ls hc hz hl hS hP
  have hsc : zz_Sc (some (L, xs)) ad A s := S.2.2.2.2.2.2.2.2.2.2.2.2.2.2.2.2.2.2
  exact va_slen S.1 S.2.1 hsc.1 hsc.2.1 hsc.2.2 hS h (K p l e R s m args below meth c ad G cA A mc ms S H locs cells slots ls hc hz hl hS hP)
theorem zz_sld {L : Nat} {xs : Nat → Int32} {i : Int32} (h : decode M.2.1 pc = .ok (.iaload, 1)) (hin : vp_in i L) (K : zz_E M (some (L, xs)) d rc rz Q (pc + 1) lv (.int (xs i.toNatClampNeg) :: st) σ) : zz_E M (some (L, xs)) d rc rz Q pc lv (.int i :: .ref 68 :: st) σ := by
  intro p l e R s m args below meth c ad G cA A mc ms S H locs cells slots ls hc hz hl hS hP
  have hsc : zz_Sc (some (L, xs)) ad A s := S.2.2.2.2.2.2.2.2.2.2.2.2.2.2.2.2.2.2
  exact va_sld S.1 S.2.1 hsc.1 hsc.2.1 hsc.2.2 hS hin h (K p l e R s m args below meth c ad G cA A mc ms S H locs cells slots ls hc hz hl hS hP)
end ZZB
