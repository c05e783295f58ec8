section ZZN
/-! constructing: worlds as lists of cells, at their addresses -/
abbrev zn_nest : List (String × Nat × MethodName) := [(RX4, 19, yX1_init), (RX1, 24, yX0_init), (RX4, 22, yX0_init), (RX4, 36, yX3_init), (RX3, 11, yX0_init), (RX4, 43, yX2_init), (RX2, 11, yX3_init), (RX2, 20, yX1_init), (RX2, 33, yX0_init)]
def zn_Z (U : State) : Prop := va_AO RX1 U ∧ ∀ x ∈ zn_nest, va_Nw (.methodLinkNest x.1 x.2.1 x.2.2 RX4) U
theorem zn_Z_warm {s U : State} (h : zn_Z s) (hW : s.WarmedH U.vm) : zn_Z U := ⟨va_AO.moved hW.alike h.1, fun x hx => va_Nw.warmM hW (h.2 x hx)⟩
theorem zn_Z_call {U : State} (g : JFrame) (mk : MethodId) (a : Array Value) (h : zn_Z U) : zn_Z (U.calling g mk a) := ⟨va_AO.moved (u := U) (U := U.calling g mk a) (Vm.Alike.refl U.vm) h.1, fun x hx => va_Nw.same rfl (u := U) (U := U.calling g mk a) rfl (h.2 x hx)⟩
def zn_S (M : zz_M) (d : Nat) (G : va_G) (cA : Nat → ClassId) (p : Program) (R : Room) (s : State) (m : MethodId) (args : Array Value) (meth : Method) (c : Code) (A : Nat → Prop) (mc ms : Nat) : Prop :=
  p.tables.exec = Jvm.exec ∧ c.code = M.2.1 ∧ c.maxLocals = M.2.2.1 ∧ meth.sig.returnType = none ∧ meth.locks = false ∧ s.vm.findClass M.2.2.2.2.1 = some m.cls ∧ (∀ w ∈ zz_g, w.before args s = true) ∧ va_K G vwCl (zz_tys cA) s ∧ zn_Z s ∧ (∀ q, s.heap.size ≤ q → A q) ∧ meth.name = "<init>" ∧ d ≤ R.frames ∧ 40 * d + 20 ≤ R.locals ∧ mc ≤ R.cells ∧ ms ≤ R.slots
def zn_B (G : va_G) (A : Nat → Prop) : va_W → State → Prop := fun w t => va_P G vwCl w t.heap ∧ va_D A w
def zn_pre (G : va_G) (cA : Nat → ClassId) (ws : va_W) (sz : Nat) : State → Prop := fun U => U.heap.size = sz ∧ va_P G vwCl ws U.heap ∧ va_K G vwCl (zz_tys cA) U ∧ zn_Z U ∧ va_D (fun _ => True) ws
/-- a constructor's contract -/
def zn_C (G : va_G) (cA : Nat → ClassId) (Y : zz_M) (d mc ms : Nat) (as : List Value) (ws : va_W) (post : va_W → Prop) : Prop :=
  ∀ (l : Launch) (sz : Nat), Met l Y.1 (zz_ws Y) { frames := d, cells := mc, slots := ms, locals := 40 * d + 20 } (va_Pc as (zn_pre G cA ws sz)) (va_Qv post (zn_B G (va_A ws sz)) (va_A ws sz)) mc ms (va_A ws sz)
def zn_E (G : va_G) (cA : Nat → ClassId) (M : zz_M) (d rc rz : Nat) (post : va_W → Prop) (pc : Nat) (lv : List (Nat × Value)) (st : List Value) (ws : va_W) : Prop :=
  ∀ (p : Program) (l : Launch) (e : Env) (R : Room) (s : State) (m : MethodId) (args : Array Value) (below : List Frame) (meth : Method) (c : Code) (A : Nat → Prop) (mc ms : Nat), zn_S M d G cA p R s m args meth c A mc ms →
  ∀ (H : Heap) (locs : List Loc) (cells slots : Nat) (ls : Array Slot), cells + rc ≤ mc → slots + rz ≤ ms → lv_has ls M.2.2.1 lv → va_S A s.heap H locs → va_P G vwCl ws H → va_D A ws →
  W p l e R s m args below meth c H locs cells slots (MQ below (va_Qv post (zn_B G A) A) args s mc ms A) (F0 m pc ls st)
variable {G : va_G} {cA : Nat → ClassId} {M : zz_M} {d rc rz : Nat} {post : va_W → Prop} {pc : Nat} {lv : List (Nat × Value)} {st : List Value} {ws : va_W}
theorem zn_iconst {n : Int} {v : Int32} (h : decode M.2.1 pc = .ok (.iconst n, 1)) (hv : Int32.ofInt n = v) (K : zn_E G cA M d rc rz post (pc + 1) lv (.int v :: st) ws) : zn_E G cA M d rc rz post pc lv st ws := by
  intro p l e R s m args below meth c A mc ms S H locs cells slots ls hc hz hl hS hP hD
  exact lv_iconst S.1 S.2.1 h hv (K p l e R s m args below meth c A mc ms S H locs cells slots ls hc hz hl hS hP hD)
theorem zn_bipush {n : Int} {v : Int32} (h : decode M.2.1 pc = .ok (.bipush n, 2)) (hv : (Int8.ofInt n).toInt32 = v) (K : zn_E G cA M d rc rz post (pc + 2) lv (.int v :: st) ws) : zn_E G cA M d rc rz post pc lv st ws := by
  intro p l e R s m args below meth c A mc ms S H locs cells slots ls hc hz hl hS hP hD
  exact lv_bipush S.1 S.2.1 h hv (K p l e R s m args below meth c A mc ms S H locs cells slots ls hc hz hl hS hP hD)
theorem zn_sipush {n : Int} {v : Int32} (h : decode M.2.1 pc = .ok (.sipush n, 3)) (hv : (Int16.ofInt n).toInt32 = v) (K : zn_E G cA M d rc rz post (pc + 3) lv (.int v :: st) ws) : zn_E G cA M d rc rz post pc lv st ws := by
  intro p l e R s m args below meth c A mc ms S H locs cells slots ls hc hz hl hS hP hD
  exact lv_sipush S.1 S.2.1 h hv (K p l e R s m args below meth c A mc ms S H locs cells slots ls hc hz hl hS hP hD)
theorem zn_aload {k : Fin 4} {i x : Nat} (h : decode M.2.1 pc = .ok (.aload_n k, 1)) (hk : lv[i]? = some ((k : Nat), .ref x)) (K : zn_E G cA M d rc rz post (pc + 1) lv (.ref x :: st) ws) : zn_E G cA M d rc rz post pc lv st ws := by
  intro p l e R s m args below meth c A mc ms S H locs cells slots ls hc hz hl hS hP hD
  exact lv_aload_n S.1 S.2.1 h rfl (lv_at hl i hk) (K p l e R s m args below meth c A mc ms S H locs cells slots ls hc hz hl hS hP hD)
theorem zn_iload {k : Fin 4} {i : Nat} {x : Int32} (h : decode M.2.1 pc = .ok (.iload_n k, 1)) (hk : lv[i]? = some ((k : Nat), .int x)) (K : zn_E G cA M d rc rz post (pc + 1) lv (.int x :: st) ws) : zn_E G cA M d rc rz post pc lv st ws := by
  intro p l e R s m args below meth c A mc ms S H locs cells slots ls hc hz hl hS hP hD
  exact lv_iload_n S.1 S.2.1 h rfl (lv_at hl i hk) (K p l e R s m args below meth c A mc ms S H locs cells slots ls hc hz hl hS hP hD)
theorem zn_istore {k : Fin 4} {x : Int32} {lv' : List (Nat × Value)} (h : decode M.2.1 pc = .ok (.istore_n k, 1)) (hn : (k : Nat) < M.2.2.1) (hv : ((k : Nat), Value.int x) :: lv.filter (fun q => !(q.1 == (k : Nat)) && !(q.1 + 1 == (k : Nat) && q.2.category == 2)) = lv') (K : zn_E G cA M d rc rz post (pc + 1) lv' st ws) : zn_E G cA M d rc rz post pc lv (.int x :: st) ws := by
  intro p l e R s m args below meth c A mc ms S H locs cells slots ls hc hz hl hS hP hD
  exact lv_istore_n S.1 S.2.1 h rfl hl hn hv (fun ls' hl' => K p l e R s m args below meth c A mc ms S H locs cells slots ls' hc hz hl' hS hP hD)
theorem zn_iinc {i k : Nat} {n : Int} {x v : Int32} {lv' : List (Nat × Value)} (h : decode M.2.1 pc = .ok (.iinc i n, 3)) (hk : lv[k]? = some (i, .int x)) (hv : x + Int32.ofInt n = v) (hn : i < M.2.2.1) (hl' : (i, Value.int v) :: lv.filter (fun q => !(q.1 == i) && !(q.1 + 1 == i && q.2.category == 2)) = lv') (K : zn_E G cA M d rc rz post (pc + 3) lv' st ws) : zn_E G cA M d rc rz post pc lv st ws := by
  intro p l e R s m args below meth c A mc ms S H locs cells slots ls hc hz hl hS hP hD
  exact lv_iinc S.1 S.2.1 h hl hk hv hn hl' (fun ls' hl' => K p l e R s m args below meth c A mc ms S H locs cells slots ls' hc hz hl' hS hP hD)
theorem zn_goto {off : Int} {tgt : Nat} (h : decode M.2.1 pc = .ok (.goto off, 3)) (ht : (pc : Int) + off = (tgt : Int)) (K : zn_E G cA M d rc rz post tgt lv st ws) : zn_E G cA M d rc rz post pc lv st ws := by
  intro p l e R s m args below meth c A mc ms S H locs cells slots ls hc hz hl hS hP hD
  exact lv_goto S.1 S.2.1 h ht (K p l e R s m args below meth c A mc ms S H locs cells slots ls hc hz hl hS hP hD)
theorem zn_icmp_ge {off : Int} {tgt : Nat} {x y : Int32} (h : decode M.2.1 pc = .ok (.if_icmp .ge off, 3)) (ht : (pc : Int) + off = (tgt : Int)) (K1 : y ≤ x → zn_E G cA M d rc rz post tgt lv st ws) (K2 : ¬ y ≤ x → zn_E G cA M d rc rz post (pc + 3) lv st ws) : zn_E G cA M d rc rz post pc lv (.int y :: .int x :: st) ws := by
  intro p l e R s m args below meth c A mc ms S H locs cells slots ls hc hz hl hS hP hD
  exact lv_icmp_ge S.1 S.2.1 h ht (fun q => K1 q p l e R s m args below meth c A mc ms S H locs cells slots ls hc hz hl hS hP hD) (fun q => K2 q p l e R s m args below meth c A mc ms S H locs cells slots ls hc hz hl hS hP hD)
theorem zn_dup {a : Nat} (h : decode M.2.1 pc = .ok (.dup, 1)) (K : zn_E G cA M d rc rz post (pc + 1) lv (.ref a :: .ref a :: st) ws) : zn_E G cA M d rc rz post pc lv (.ref a :: st) ws := by
  intro p l e R s m args below meth c A mc ms S H locs cells slots ls hc hz hl hS hP hD
  exact lv_dup S.1 S.2.1 h rfl (K p l e R s m args below meth c A mc ms S H locs cells slots ls hc hz hl hS hP hD)
theorem zn_objInit {i a : Nat} (h : decode M.2.1 pc = .ok (.invokespecial i, 3)) (hw : Cond.methodLink M.2.2.2.2.1 i objectInit ∈ zz_g) (hd : 1 ≤ d) (hcat : (st.map fun v => v.category).sum ≤ 8) (K : zn_E G cA M d rc rz post (pc + 3) lv st ws) : zn_E G cA M d rc rz post pc lv (.ref a :: st) ws := by
  intro p l e R s m args below meth c A mc ms S H locs cells slots ls hc hz hl hS hP hD
  have hRf : d ≤ R.frames := S.2.2.2.2.2.2.2.2.2.2.2.1
  have hRl : 40 * d + 20 ≤ R.locals := S.2.2.2.2.2.2.2.2.2.2.2.2.1
  refine W.objInit S.1 S.2.1 S.2.2.2.2.2.1 (S.2.2.2.2.2.2.1 _ hw) (S.2.2.2.2.2.2.1 _ zw_i_objectInit) (S.2.2.2.2.2.2.1 _ zw_c_objectInit) rfl (hl.1.trans S.2.2.1.symm) rfl h (by omega) (by show 2 * 0 + _ + 12 ≤ _; omega) ?_
  exact W.eq (g2 := F0 m (pc + 3) ls st) rfl (K p l e R s m args below meth c A mc ms S H locs cells slots ls hc hz hl hS hP hD)
theorem zn_new {C : String} {T : u_T} {N ci i : Nat} {fs : List Value} (hin : ∀ w ∈ u_ws C T N, w ∈ zz_g) (ty : Nat → FieldType) (hty : ∀ k, k < N → parseFieldDescriptor (T k).2.2.1 = some (ty k)) (h1 : Cond.classLink M.2.2.2.2.1 i C ∈ zz_g) (h2 : Cond.instantiable C N ∈ zz_g) (h3 : Cond.initialized C ∈ zz_g) (hci : vwCl[ci]? = some (C, T, N)) (hfs : ∀ j, j < N → defaultValue (ty j) = vp_V fs j) (hcc : 1 ≤ rc) (hss : N ≤ rz) (h : decode M.2.1 pc = .ok (.new i, 3)) (K : ∀ q, zn_E G cA M d (rc - 1) (rz - N) post (pc + 3) lv (.ref q :: st) (ws ++ [(q, .inr (ci, fs))])) : zn_E G cA M d rc rz post pc lv st ws := by
  intro p l e R s m args below meth c A mc ms S H locs cells slots ls hc hz hl hS hP hD
  have hts := S.2.2.2.2.2.2.1
  have hRc : mc ≤ R.cells := S.2.2.2.2.2.2.2.2.2.2.2.2.2.1
  have hRs : ms ≤ R.slots := S.2.2.2.2.2.2.2.2.2.2.2.2.2.2
  exact va_new S.1 S.2.1 hts hin ty hty S.2.2.2.2.2.1 (hts _ h1) (hts _ h2) (hts _ h3) S.2.2.2.2.2.2.2.1 hP hD hS S.2.2.2.2.2.2.2.2.2.1 hci hfs (by omega) (by omega) h (fun q H1 hP1 hD1 hS1 => K q p l e R s m args below meth c A mc ms S H1 locs (cells + 1) (slots + N) ls (by omega) (by omega) hl hS1 hP1 hD1)
theorem zn_newa {atype : ArrayType} {n : Int32} {N' t : Nat} {a0 : vp_A} {ty : FieldType} (hw : Cond.arrayClass (newarray.typeOf atype) ∈ zz_g) (hty : newarray.typeOf atype = ty) (ht : (zz_tys cA)[t]? = some (cA t, ty)) (hra : ∀ (U : State) (x : ClassId), va_RA U x ty → U.vm.findClass ("[" ++ ty.toString) = some x) (ha : ∀ cB : ClassId, vp_cell cB a0 = arrV cB N' (fun _ => defaultValue ty)) (hn : ¬ n < 0) (hN : n.toNatClampNeg = N') (hby : N' * componentBytes ty ≤ 536870912) (hcc : 1 ≤ rc) (hss : N' ≤ rz) (h : decode M.2.1 pc = .ok (.newarray atype, 2)) (K : ∀ q, zn_E G cA M d (rc - 1) (rz - N') post (pc + 2) lv (.ref q :: st) (ws ++ [(q, .inl (cA t, a0))])) : zn_E G cA M d rc rz post pc lv (.int n :: st) ws := by
  intro p l e R s m args below meth c A mc ms S H locs cells slots ls hc hz hl hS hP hD
  have hts := S.2.2.2.2.2.2.1
  have hK := S.2.2.2.2.2.2.2.1
  have hRc : mc ≤ R.cells := S.2.2.2.2.2.2.2.2.2.2.2.2.2.1
  have hRs : ms ≤ R.slots := S.2.2.2.2.2.2.2.2.2.2.2.2.2.2
  refine va_newa S.1 S.2.1 (hts _ hw) hty hK hP hD hS S.2.2.2.2.2.2.2.2.2.1 ha hn hN hby (by omega) (by omega) h (fun q cB H1 hK1 hP1 hD1 hS1 => ?_)
  have e : cB = cA t := Option.some.inj ((hra s cB (hK1.2 5 (cB, ty) rfl).2).symm.trans (hra s (cA t) (hK.2 t _ ht).2))
  subst e
  exact K q p l e R s m args below meth c A mc ms S H1 locs (cells + 1) (slots + N') ls (by omega) (by omega) hl hS1 hP1 hD1
theorem zn_newq {i : Nat} {n : Int32} {N' : Nat} (hw : Cond.classLink M.2.2.2.2.1 i RX1 ∈ zz_g) (hn : ¬ n < 0) (hN : n.toNatClampNeg = N') (hby : N' * 4 ≤ 536870912) (hcc : 1 ≤ rc) (hss : N' ≤ rz) (h : decode M.2.1 pc = .ok (.anewarray i, 3)) (K : ∀ q, zn_E G cA M d (rc - 1) (rz - N') post (pc + 3) lv (.ref q :: st) (ws ++ [(q, .inl (cA 3, N', .inr (.inr (.inr (.inr (fun _ => none))))))])) : zn_E G cA M d rc rz post pc lv (.int n :: st) ws := by
  intro p l e R s m args below meth c A mc ms S H locs cells slots ls hc hz hl hS hP hD
  have hts := S.2.2.2.2.2.2.1
  have hK := S.2.2.2.2.2.2.2.1
  have hRc : mc ≤ R.cells := S.2.2.2.2.2.2.2.2.2.2.2.2.2.1
  have hRs : ms ≤ R.slots := S.2.2.2.2.2.2.2.2.2.2.2.2.2.2
  refine va_newq S.1 S.2.1 S.2.2.2.2.2.1 (hts _ hw) S.2.2.2.2.2.2.2.2.1.1 hK hP hD hS S.2.2.2.2.2.2.2.2.2.1 hn hN hby (by omega) (by omega) h (fun q cB H1 hK1 hP1 hD1 hS1 => ?_)
  have e : cB = cA 3 := by
    obtain ⟨_, _, _, _, _, f1⟩ := (hK1.2 5 (cB, .object RX1) rfl).2
    obtain ⟨_, _, _, _, _, f2⟩ := (hK.2 3 (cA 3, .object RX1) rfl).2
    exact Option.some.inj (f1.symm.trans f2)
  subst e
  exact K q p l e R s m args below meth c A mc ms S H1 locs (cells + 1) (slots + N') ls (by omega) (by omega) hl hS1 hP1 hD1
theorem zn_put {C : String} {T : u_T} {N ci i q0 k a : Nat} {fs : List Value} {ty : FieldType} {v : Value} {ws1 : va_W} (hin : ∀ w ∈ u_ws C T N, w ∈ zz_g) (ty0 : Nat → FieldType) (hty : ∀ k, k < N → parseFieldDescriptor (T k).2.2.1 = some (ty0 k)) (hnm : ∀ a, a < N → ∀ b, b < N → a ≠ b → (T a).2.1 ≠ (T b).2.1) (he : ws[q0]? = some (a, .inr (ci, fs))) (hci : vwCl[ci]? = some (C, T, N)) (hk : k < N) (hlink : Cond.fieldLink M.2.2.2.2.1 i (T k).1 (T k).2.1 (T k).2.2.1 ∈ zz_g) (hdecl : (T k).1 = M.2.2.2.2.1) (hd : parseFieldDescriptor (T k).2.2.1 = some ty) (hn : narrow ty v = v) (hfit : fits ty v = true) (hl0 : k < fs.length) (hws : ws.set q0 (a, .inr (ci, fs.set k v)) = ws1) (h : decode M.2.1 pc = .ok (.putfield i, 3)) (K : zn_E G cA M d rc rz post (pc + 3) lv st ws1) : zn_E G cA M d rc rz post pc lv (v :: .ref a :: st) ws := by
  intro p l e R s m args below meth c A mc ms S H locs cells slots ls hc hz hl hS hP hD
  have hts := S.2.2.2.2.2.2.1
  have hK := S.2.2.2.2.2.2.2.1
  subst hws
  by_cases hf : (T k).2.2.2 = true
  · exact va_putF (ty := ty) S.1 S.2.1 hts hin ty0 hty hnm S.2.2.2.2.2.1 hK hP hD hS q0 he hci k hk (hts _ hlink) (fun _ h9 => h9) hf S.2.2.2.2.2.2.2.2.2.2.1 hdecl hd hn hfit hl0 h (fun H1 locs1 hP1 hD1 hS1 => K p l e R s m args below meth c A mc ms S H1 locs1 cells slots ls hc hz hl hS1 hP1 hD1)
  · exact va_put (ty := ty) S.1 S.2.1 hts hin ty0 hty hnm S.2.2.2.2.2.1 hK hP hD hS q0 he hci k hk (hts _ hlink) (fun _ h9 => h9) (by simpa using hf) hd hn hfit hl0 h (fun H1 locs1 hP1 hD1 hS1 => K p l e R s m args below meth c A mc ms S H1 locs1 cells slots ls hc hz hl hS1 hP1 hD1)
theorem zn_get {C : String} {T : u_T} {N ci i q0 k a : Nat} {fs : List Value} {v : Value} (hin : ∀ w ∈ u_ws C T N, w ∈ zz_g) (he : ws[q0]? = some (a, .inr (ci, fs))) (hci : vwCl[ci]? = some (C, T, N)) (hk : k < N) (hlink : Cond.fieldLink M.2.2.2.2.1 i (T k).1 (T k).2.1 (T k).2.2.1 ∈ zz_g) (hv : fs[k]? = some v) (h : decode M.2.1 pc = .ok (.getfield i, 3)) (K : zn_E G cA M d rc rz post (pc + 3) lv (v :: st) ws) : zn_E G cA M d rc rz post pc lv (.ref a :: st) ws := by
  intro p l e R s m args below meth c A mc ms S H locs cells slots ls hc hz hl hS hP hD
  have hts := S.2.2.2.2.2.2.1
  exact va_get S.1 S.2.1 hts hin S.2.2.2.2.2.1 S.2.2.2.2.2.2.2.1 hP q0 he hci k hk (hts _ hlink) (fun _ h9 => h9) hv h (K p l e R s m args below meth c A mc ms S H locs cells slots ls hc hz hl hS hP hD)
theorem zn_alen {q0 t a : Nat} {x : vp_A} {ty : FieldType} {v : Int32} (ha : ws[q0]? = some (a, .inl (cA t, x))) (ht : (zz_tys cA)[t]? = some (cA t, ty)) (hv : Int32.ofNat x.1 = v) (h : decode M.2.1 pc = .ok (.arraylength, 1)) (K : zn_E G cA M d rc rz post (pc + 1) lv (.int v :: st) ws) : zn_E G cA M d rc rz post pc lv (.ref a :: st) ws := by
  intro p l e R s m args below meth c A mc ms S H locs cells slots ls hc hz hl hS hP hD
  exact va_alen S.1 S.2.1 S.2.2.2.2.2.2.2.1 hP q0 t ha ht hv h (K p l e R s m args below meth c A mc ms S H locs cells slots ls hc hz hl hS hP hD)
theorem zn_aast {q0 qk a v n ci : Nat} {vs : List Value} {T : u_T} {N : Nat} {f : Nat → Option Nat} {i : Int32} {ws1 : va_W} (ha : ws[q0]? = some (a, .inl (cA 3, n, .inr (.inr (.inr (.inr f)))))) (hv : ws[qk]? = some (v, .inr (ci, vs))) (hci : vwCl[ci]? = some (RX1, T, N)) (hin : vp_in i n) (hws : ws.set q0 (a, .inl (cA 3, n, .inr (.inr (.inr (.inr (va_up f i.toNatClampNeg (some v))))))) = ws1) (h : decode M.2.1 pc = .ok (.aastore, 1)) (K : zn_E G cA M d rc rz post (pc + 1) lv st ws1) : zn_E G cA M d rc rz post pc lv (.ref v :: .int i :: .ref a :: st) ws := by
  intro p l e R s m args below meth c A mc ms S H locs cells slots ls hc hz hl hS hP hD
  subst hws
  exact va_astq S.1 S.2.1 S.2.2.2.2.2.2.2.1 hP hD hS q0 3 qk ci ha rfl hv hci hin h (fun H1 locs1 hP1 hD1 hS1 => K p l e R s m args below meth c A mc ms S H1 locs1 cells slots ls hc hz hl hS1 hP1 hD1)
theorem zn_good {Y : zz_M} (hh : Y.2.2.2.2.2 = []) (h5 : Cond.code Y.1 Y.2.1 Y.2.2.1 Y.2.2.2.1 ∈ zz_g) : GoodIn zz_g (zz_ws Y) := by
  have hall : ∀ w ∈ zz_ws Y, w ∈ zz_g := by
    intro w hw
    unfold zz_ws at hw
    rw [hh] at hw
    rcases List.mem_cons.mp hw with rfl | hw
    · exact h5
    · exact hw
  exact fun w hw => ⟨hall w hw, good_of_word (zz_g_good w (hall w hw))⟩
/-- a call of a nest mate's constructor -/
theorem zn_init {Y : zz_M} {i b d2 mc2 ms2 : Nat} {wc wr : va_W} {post2 : va_W → Prop} (isC isR : List Nat) (hC0 : zn_C G cA Y d2 mc2 ms2 [.ref b] wc post2) (h : decode M.2.1 pc = .ok (.invokespecial i, 3)) (hl0 : (M.2.2.2.2.1, i, Y.1) ∈ zn_nest)
    (hY : Y.2.2.2.2.2 = [] ∧ Y.2.2.2.1 = none ∧ Y.2.2.1 ≤ 21 ∧ Y.1.name = "<init>") (h1 : Cond.instanceMethod Y.1 ∈ zz_g) (h2 : Cond.initialized Y.1.cls ∈ zz_g) (h5 : Cond.code Y.1 Y.2.1 Y.2.2.1 none ∈ zz_g) (hdd : (Y.1.cls ≠ "java/lang/invoke/MethodHandle" ∧ Y.1.cls ≠ "java/lang/invoke/VarHandle") ∧ (parseMethodDescriptor Y.1.desc).map (fun d => d.parameters.length) = some 0)
    (hC : isC.map (fun i => ws[i]?) = wc.map some) (hCn : va_nd isC = true) (hR : isR.map (fun i => ws[i]?) = wr.map some) (hn : va_nd isR = true) (hdis : ∀ i ∈ isR, i ∉ isC) (hcat : (st.map fun v => v.category).sum ≤ 8) (hf : d2 + 1 ≤ d) (hc1 : mc2 ≤ rc) (hc2 : ms2 ≤ rz)
    (K : ∀ w1, post2 w1 → zn_E G cA M d (rc - mc2) (rz - ms2) post (pc + 3) lv st (wr ++ w1)) : zn_E G cA M d rc rz post pc lv (.ref b :: st) ws := by
  intro p l e R s m args below meth c A mc ms S H locs cells slots ls hc hz hl hS hP hD
  have hts := S.2.2.2.2.2.2.1
  have hK := S.2.2.2.2.2.2.2.1
  have hZ := S.2.2.2.2.2.2.2.2.1
  have hA := S.2.2.2.2.2.2.2.2.2.1
  have hRf : d ≤ R.frames := S.2.2.2.2.2.2.2.2.2.2.2.1
  have hRl : 40 * d + 20 ≤ R.locals := S.2.2.2.2.2.2.2.2.2.2.2.2.1
  have hRc : mc ≤ R.cells := S.2.2.2.2.2.2.2.2.2.2.2.2.2.1
  have hRs : ms ≤ R.slots := S.2.2.2.2.2.2.2.2.2.2.2.2.2.2
  have hY2 := hY.2.2.1
  have hPc : va_P G vwCl wc H := by
    intro k q hq
    have e1 : (isC.map (fun i => ws[i]?))[k]? = some (some q) := by rw [hC, List.getElem?_map, hq]; rfl
    rw [List.getElem?_map] at e1
    cases hi : isC[k]? with
    | none => rw [hi] at e1; cases e1
    | some j =>
      rw [hi] at e1
      exact hP j q (by simpa using e1)
  have hDc := hD.sub isC hCn hC
  have hFc := va_free hD hS hA isC hC
  refine va_callv (va_runIN (As := []) (rest := st) (host := RX4) (bytes := Y.2.1) (maxL := Y.2.2.1) ⟨S.1, S.2.1, S.2.2.1, S.2.2.2.2.2.1, hts⟩ (hC0 l H.size) ⟨va_cnB (ws' := zz_g) 0 hts (zn_good hY.1 (by rw [hY.2.1]; exact h5)) (by unfold zz_ws; rw [hY.1, hY.2.1]) rfl rfl (hZ.2 _ hl0) (hts _ h2) ⟨hdd.1.1, hdd.1.2, hdd.2⟩ ⟨by show d2 + 1 ≤ R.frames; omega, by show 8 + (Y.2.2.1 + 11) + (40 * d2 + 20) ≤ R.locals; omega⟩, hY.2.2.2, hts _ h1⟩ ⟨fun a U g mk w => ⟨w.1, w.2.1, w.2.2.1, va_K.moved (u := U) (U := U.calling g mk a) (Vm.Alike.refl U.vm) w.2.2.2.1, zn_Z_call g mk a w.2.2.2.2.1, w.2.2.2.2.2⟩, fun U hU hW => ⟨rfl, by rw [hU], by rw [hU]; exact hPc, va_K.moved hW.alike hK, zn_Z_warm hZ hW, hDc.weaken (fun _ _ _ _ => trivial)⟩⟩ rfl rfl hl.1 rfl (lv_room hcat) h ⟨by omega, by omega⟩) hS (fun q _ h => hFc q h) hFc (fun u t H1 locs1 ht hvm hw hB hz1 hk1 hS1 => ?_)
  obtain ⟨hP1, hD1⟩ := hB
  rw [ht] at hP1
  obtain ⟨hP2, hD2⟩ := va_join hP hD isC isR hC hR hn hdis hk1 hFc hP1 hD1
  exact K u hw p l e R s m args below meth c A mc ms S H1 locs1 (cells + mc2) (slots + ms2) ls (by omega) (by omega) hl hS1 hP2 hD2
theorem zn_eqw {w2 : va_W} (h : ws = w2) (K : zn_E G cA M d rc rz post pc lv st w2) : zn_E G cA M d rc rz post pc lv st ws := h ▸ K
theorem zn_vret (h : decode M.2.1 pc = .ok (.return_, 1)) (hQ : post ws) : zn_E G cA M d rc rz post pc lv [] ws := by
  intro p l e R s m args below meth c A mc ms S H locs cells slots ls hc hz hl hS hP hD
  refine W.widen (k := mc) (n := ms) (by omega) (by omega) ?_
  exact W.vret S.1 S.2.1 S.2.2.2.1 (fun t ht hW => ⟨⟨ws, rfl, hQ, by rw [ht]; exact hP, hD⟩, hS.F ht⟩) (fun q hq => hS.2.2 q hq) h S.2.2.2.2.1
theorem zn_start {mc ms : Nat} {as : List Value} (hy : plainName M.1.cls = true) (hown : M.2.2.2.2.1 = M.1.cls) (hh : M.2.2.2.2.2 = []) (hr : M.2.2.2.1 = none) (hni : M.1.name = "<init>") (hn : (lg_sl as).length ≤ M.2.2.1) (K : zn_E G cA M d mc ms post 0 (lv_args 0 as) [] ws) : zn_C G cA M d mc ms as ws post := by
  intro l sz
  refine Met.ofW (cc := M.2.1) (maxL := M.2.2.1) (ret := M.2.2.2.1) (ws' := zz_g) hy (by unfold zz_ws; rw [hh]) ?_
  intro p e s m args below meth c s₁ B hml hv
  obtain ⟨rfl, hsz, hP, hK, hZ, hD⟩ := hv
  have hts := atoms_spec (ws := zz_ws M) B.pre
  have hl := lv_entry as (n := M.2.2.1) hn
  rw [lg_entry_eq]
  subst hsz
  refine K p l e _ s m _ below meth c (va_A ws s.heap.size) mc ms ⟨B.exec, B.bytes, hml, B.returns.trans hr, B.notSynchronized, ?_, fun w hw => hts w (List.mem_cons_of_mem _ hw), hK, hZ, fun q h => Or.inr h, (name_of_methodNamed B.named B.method).1.trans hni, Nat.le_refl _, Nat.le_refl _, Nat.le_refl _, Nat.le_refl _⟩ s.heap [] 0 0 _ (by omega) (by omega) hl va_S.rf hP hD.self
  rw [hown]; exact findClass_of_methodNamed B.named
end ZZN
