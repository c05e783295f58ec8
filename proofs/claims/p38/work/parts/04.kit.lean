section ZZA
/-! A packed judgement over W: one store of 58 (or 60) numbered things (positions), their addresses given by ad; rows an instruction, contracts a method. -/
/-- a method: name, code, locals, what it returns, its class, its table of handlers -/
abbrev zz_M : Type := MethodName × ByteArray × Nat × Option FieldType × String × List (Nat × Nat × Nat × Nat)
abbrev zz_St : Type := Nat → va_E
abbrev zz_O : Type := Option Value ⊕ String
abbrev zz_Q : Type := zz_O → zz_St → Prop
/-- a value, positions made addresses -/
def zz_V (ad : Nat → Nat) : Value → Value := fun v => match v with
  | .ref k => .ref (ad k)
  | v => v
def zz_Vo (ad : Nat → Nat) : Option Value → Option Value := fun v => v.map (zz_V ad)
def zz_E1 (ad : Nat → Nat) (cA : Nat → ClassId) : va_E → va_E := fun e => match e with
  | .inr (ci, fs) => .inr (ci, fs.map (zz_V ad))
  | .inl (k, n, .inr (.inr (.inr (.inr f)))) => .inl (cA k, n, .inr (.inr (.inr (.inr (fun i => (f i).map ad)))))
  | .inl (k, n, x) => .inl (cA k, n, x)
/-- two more positions, 58 and 59, stand where position 60 marks it -/
def zz_k (σ : zz_St) : Nat := match σ 60 with
  | .inl (_, n, _) => if n ≤ 2 then n else 0
  | _ => 0
theorem zz_k_le (σ : zz_St) : zz_k σ ≤ 2 := by
  unfold zz_k
  split
  · split <;> omega
  · omega
theorem zz_k_up {σ : zz_St} {q : Nat} (h : q ≠ 60) (x : va_E) : zz_k (va_up σ q x) = zz_k σ := by
  unfold zz_k va_up
  rw [if_neg (fun e => h e.symm)]
def zz_W (ad : Nat → Nat) (cA : Nat → ClassId) (σ : zz_St) : va_W := (List.range (58 + zz_k σ)).map (fun k => (ad k, zz_E1 ad cA (σ k)))
theorem zz_W_get {ad : Nat → Nat} {cA : Nat → ClassId} {σ : zz_St} {q : Nat} (h : q < 58 + zz_k σ) : (zz_W ad cA σ)[q]? = some (ad q, zz_E1 ad cA (σ q)) := by
  simp [zz_W, h]
theorem zz_W_at {ad : Nat → Nat} {cA : Nat → ClassId} {σ : zz_St} {k : Nat} {x : Nat × va_E} (h : (zz_W ad cA σ)[k]? = some x) : k < 58 + zz_k σ ∧ x.1 = ad k := by
  have hk : k < 58 + zz_k σ := by
    have := (List.getElem?_eq_some_iff.mp h).1
    simpa [zz_W] using this
  rw [zz_W_get hk] at h
  cases h
  exact ⟨hk, rfl⟩
theorem zz_W_set {ad : Nat → Nat} {cA : Nat → ClassId} {σ : zz_St} {q : Nat} (h : q < 58 + zz_k σ) (x : va_E) : (zz_W ad cA σ).set q (ad q, zz_E1 ad cA x) = zz_W ad cA (va_up σ q x) := by
  have hk := zz_k_le σ
  have hu : zz_k (va_up σ q x) = zz_k σ := zz_k_up (by omega) x
  apply List.ext_getElem?
  intro i
  by_cases hi : i < 58 + zz_k σ
  · rw [zz_W_get (σ := va_up σ q x) (by rw [hu]; exact hi), List.getElem?_set]
    by_cases hq : q = i
    · subst hq
      simp [zz_W, h, va_up]
    · rw [if_neg hq, zz_W_get hi]
      have : ¬ i = q := fun e => hq e.symm
      simp [va_up, this]
  · have h1 : (zz_W ad cA σ).length = 58 + zz_k σ := by simp [zz_W]
    have h2 : (zz_W ad cA (va_up σ q x)).length = 58 + zz_k σ := by simp [zz_W, hu]
    rw [List.getElem?_eq_none (by rw [List.length_set, h1]; omega), List.getElem?_eq_none (by rw [h2]; omega)]
abbrev zz_tys (cA : Nat → ClassId) : List (ClassId × FieldType) := [(cA 0, .int), (cA 1, .long), (cA 2, .boolean), (cA 3, .object RX1), (cA 4, .int)]
def zz_inj (ad : Nat → Nat) : Prop := ∀ i j : Nat, i < 60 → j < 60 → ad i = ad j → i = j
theorem zz_D {ad : Nat → Nat} {cA : Nat → ClassId} {σ : zz_St} {A : Nat → Prop} (hi : zz_inj ad) (hA : ∀ k, k < 60 → A (ad k)) : va_D A (zz_W ad cA σ) := by
  refine ⟨fun i j p q h1 h2 e => ?_, fun k q h => ?_⟩
  · obtain ⟨a1, b1⟩ := zz_W_at h1
    obtain ⟨a2, b2⟩ := zz_W_at h2
    have hk := zz_k_le σ
    exact hi i j (by omega) (by omega) (by rw [← b1, ← b2]; exact e)
  · obtain ⟨a1, b1⟩ := zz_W_at h
    have hk := zz_k_le σ
    rw [b1]
    exact hA k (by omega)
/-- the region that a call on the store may change -/
def zz_A (ad : Nat → Nat) (sz : Nat) : Nat → Prop := fun q => (∃ k, k < 60 ∧ q = ad k) ∨ sz ≤ q
/-- the texts of the class's throws -/
abbrev zz_txt : List (Nat × String) := [(50, "elements is out of range"), (110, "many is out of range"), (122, "how is out of range"), (149, "the relation has a ring"), (164, "word is out of range"), (180, "what is out of range"), (206, "there is no order"), (229, "no marked element has this index"), (241, "no such relation"), (244, "no such element"), (246, "no such range")]
/-- classes of exceptions that aren't one another's kind -/
abbrev zz_nc : List (String × String) := [("java/lang/IllegalArgumentException", "java/lang/IndexOutOfBoundsException"), ("java/lang/IllegalStateException", "java/lang/IndexOutOfBoundsException"), ("java/lang/IllegalStateException", "java/lang/IllegalArgumentException"), ("java/util/NoSuchElementException", "java/lang/IndexOutOfBoundsException"), ("java/util/NoSuchElementException", "java/lang/IllegalArgumentException"), ("java/util/NoSuchElementException", "java/lang/IllegalStateException")]
abbrev zz_exc : List String := ["java/lang/IllegalArgumentException", "java/lang/IndexOutOfBoundsException", "java/lang/IllegalStateException", "java/util/NoSuchElementException"]
abbrev zz_dec : List MethodName := [Bundle.initS "java/lang/RuntimeException", Bundle.initS "java/lang/Exception", Bundle.initS Bundle.tN]
/-- what a throw needs of the world -/
def zz_Z (A : Nat → Prop) (U : State) (H : Heap) : Prop := vx_Zq Bundle.tN "UNASSIGNED_STACK" Bundle.steD A U H ∧ vx_Zq Bundle.tN "SUPPRESSED_SENTINEL" Bundle.listD A U H ∧ (∀ x ∈ zz_txt, ∃ a, vk_R RX4 x.1 x.2 a U) ∧ (∀ x ∈ zz_nc, va_Nc x.1 x.2 U) ∧ (∀ E ∈ zz_exc, va_Nw (.castable E E) U) ∧ ∀ x ∈ zz_dec, va_Nw (.declares x) U
theorem zz_Z_down {A B : Nat → Prop} {s U : State} {H1 : Heap} (h : zz_Z A s s.heap) (hW : s.WarmedH U.vm) (hk : ∀ q : Nat, q < s.heap.size → ¬ A q → H1[q]? = s.heap[q]?) (hAB : ∀ q, B q → A q) : zz_Z B U H1 :=
  ⟨((h.1.kept hk).moved hW.alike).narrow hAB, ((h.2.1.kept hk).moved hW.alike).narrow hAB, fun x hx => by
    obtain ⟨a, ha⟩ := h.2.2.1 x hx
    exact ⟨a, vk_R.warm hW ha⟩, fun x hx => (h.2.2.2.1 x hx).moved hW.alike, fun E hE => va_Nw.warmC hW (h.2.2.2.2.1 E hE), fun x hx => va_Nw.warmD hW (h.2.2.2.2.2 x hx)⟩
theorem zz_Z_call {A : Nat → Prop} {U : State} (g : JFrame) (mk : MethodId) (a : Array Value) (h : zz_Z A U U.heap) : zz_Z A (U.calling g mk a) (U.calling g mk a).heap :=
  ⟨vx_Zq.moved (u := U) (U := U.calling g mk a) (Vm.Alike.refl U.vm) h.1, vx_Zq.moved (u := U) (U := U.calling g mk a) (Vm.Alike.refl U.vm) h.2.1, fun x hx => by
    obtain ⟨a', ha⟩ := h.2.2.1 x hx
    exact ⟨a', vk_R.same rfl ha⟩, fun x hx => va_Nc.moved (u := U) (U := U.calling g mk a) (Vm.Alike.refl U.vm) (h.2.2.2.1 x hx), fun E hE => va_Nw.same rfl (u := U) (U := U.calling g mk a) rfl (h.2.2.2.2.1 E hE), fun x hx => va_Nw.same rfl (u := U) (U := U.calling g mk a) rfl (h.2.2.2.2.2 x hx)⟩
/-- a method's end: it returns -/
def zz_Qc (G : va_G) (cA : Nat → ClassId) (ad : Nat → Nat) (A : Nat → Prop) (Q : zz_Q) : Array Value → State → Outcome → State → Prop := fun _ st oc t =>
  (∃ (v : Option Value) (τ : zz_St), oc = .returned (zz_Vo ad v) ∧ Q (.inl v) τ ∧ va_P G vwCl (zz_W ad cA τ) t.heap) ∧ va_F A st t
/-- .. or throws -/
def zz_Xc (G : va_G) (cA : Nat → ClassId) (ad : Nat → Nat) (A : Nat → Prop) (Q : zz_Q) : String → State → State → Prop := fun E st t =>
  (∃ τ : zz_St, Q (.inr E) τ ∧ va_P G vwCl (zz_W ad cA τ) t.heap) ∧ va_F A st t
/-- the script of a law: at position 68 -/
def zz_Sc (sc : Option (Nat × (Nat → Int32))) (ad : Nat → Nat) (A : Nat → Prop) (s : State) : Prop := match sc with
  | none => True
  | some (L, xs) => va_X (ad 68) L xs s s.heap ∧ ad 68 < s.heap.size ∧ ¬ A (ad 68)
/-- what stays the same in a method's body -/
def zz_S (M : zz_M) (sc : Option (Nat × (Nat → Int32))) (d : Nat) (p : Program) (l : Launch) (R : Room) (s : State) (m : MethodId) (args : Array Value) (meth : Method) (c : Code) (ad : Nat → Nat) (G : va_G) (cA : Nat → ClassId) (A : Nat → Prop) (mc ms : Nat) : Prop :=
  p.tables.exec = Jvm.exec ∧ c.code = M.2.1 ∧ c.maxLocals = M.2.2.1 ∧ meth.sig.returnType = M.2.2.2.1 ∧ meth.locks = false ∧ s.vm.findClass M.2.2.2.2.1 = some m.cls ∧ (∀ w ∈ zz_g, w.before args s = true) ∧ c.exceptionTable.toList = tableOf M.2.2.2.2.2 ∧
  va_K G vwCl (zz_tys cA) s ∧ zz_inj ad ∧ (∀ k, k < 60 → A (ad k)) ∧ (∀ q, s.heap.size ≤ q → A q) ∧ zz_Z A s s.heap ∧ l.stackTraces = false ∧ d ≤ R.frames ∧ 40 * d + 20 ≤ R.locals ∧ mc ≤ R.cells ∧ ms ≤ R.slots ∧ zz_Sc sc ad A s
def zz_LV (ad : Nat → Nat) (lv : List (Nat × Value)) : List (Nat × Value) := lv.map (fun q => (q.1, zz_V ad q.2))
/-- from here the method M, at depth d, with room for rc things and rz fields yet, comes to an end with Q -/
def zz_E (M : zz_M) (sc : Option (Nat × (Nat → Int32))) (d rc rz : Nat) (Q : zz_Q) (pc : Nat) (lv : List (Nat × Value)) (st : List Value) (σ : zz_St) : Prop :=
  ∀ (p : Program) (l : Launch) (e : Env) (R : Room) (s : State) (m : MethodId) (args : Array Value) (below : List Frame) (meth : Method) (c : Code) (ad : Nat → Nat) (G : va_G) (cA : Nat → ClassId) (A : Nat → Prop) (mc ms : Nat), zz_S M sc d p l R s m args meth c ad G cA A mc ms →
  ∀ (H : Heap) (locs : List Loc) (cells slots : Nat) (ls : Array Slot), cells + rc ≤ mc → slots + rz ≤ ms → lv_has ls M.2.2.1 (zz_LV ad lv) → va_S A s.heap H locs → va_P G vwCl (zz_W ad cA σ) H →
  W p l e R s m args below meth c H locs cells slots (vx_MQ below (zz_Qc G cA ad A Q) (zz_Xc G cA ad A Q) args s mc ms A) (F0 m pc ls (st.map (zz_V ad)))
/-- a method's contract -/
def zz_pre (ad : Nat → Nat) (G : va_G) (cA : Nat → ClassId) (sz : Nat) (σ : zz_St) : State → Prop := fun U =>
  U.heap.size = sz ∧ va_P G vwCl (zz_W ad cA σ) U.heap ∧ va_K G vwCl (zz_tys cA) U ∧ zz_inj ad ∧ zz_Z (zz_A ad sz) U U.heap
def zz_ws (M : zz_M) : List Cond := (match M.2.2.2.2.2 with
  | [] => Cond.code M.1 M.2.1 M.2.2.1 M.2.2.2.1
  | h => Cond.codeWith M.1 M.2.1 M.2.2.1 M.2.2.2.1 h) :: zz_g
def zz_C (M : zz_M) (d mc ms : Nat) (as : List Value) (σ : zz_St) (Q : zz_Q) : Prop :=
  ∀ (l : Launch), l.stackTraces = false → ∀ (ad : Nat → Nat) (G : va_G) (cA : Nat → ClassId) (sz : Nat),
    vx_Met l M.1 (zz_ws M) { frames := d, cells := mc, slots := ms, locals := 40 * d + 20 } (va_Pc (as.map (zz_V ad)) (zz_pre ad G cA sz σ)) (zz_Qc G cA ad (zz_A ad sz) Q) (zz_Xc G cA ad (zz_A ad sz) Q) mc ms (zz_A ad sz)
theorem zz_cat (ad : Nat → Nat) (v : Value) : (zz_V ad v).category = v.category := by cases v <;> rfl
theorem zz_cats (ad : Nat → Nat) (st : List Value) : ((st.map (zz_V ad)).map fun v => v.category).sum = (st.map fun v => v.category).sum := by
  rw [List.map_map]
  congr 1
  exact List.map_congr_left (fun v _ => zz_cat ad v)
theorem zz_args (ad : Nat → Nat) : ∀ (vs : List Value) (i : Nat), lv_args i (vs.map (zz_V ad)) = zz_LV ad (lv_args i vs)
  | [], _ => rfl
  | v :: vs, i => by
    show (i, zz_V ad v) :: lv_args (if (zz_V ad v).category = 2 then i + 2 else i + 1) (vs.map (zz_V ad)) = (i, zz_V ad v) :: zz_LV ad (lv_args (if v.category = 2 then i + 2 else i + 1) vs)
    rw [zz_cat, zz_args ad vs]
theorem zz_sl (ad : Nat → Nat) : ∀ vs : List Value, (lg_sl (vs.map (zz_V ad))).length = (lg_sl vs).length
  | [] => rfl
  | v :: vs => by
    have := zz_sl ad vs
    cases v <;> simp_all [lg_sl, zz_V, Value.category]
theorem zz_lv_at {M : zz_M} {ad : Nat → Nat} {ls : Array Slot} {lv : List (Nat × Value)} (h : lv_has ls M.2.2.1 (zz_LV ad lv)) {i : Nat} {v : Value} (hk : lv.lookup i = some v) : ls[i]? = some (.val (zz_V ad v)) := by
  have hm : (i, v) ∈ lv := by
    induction lv with
    | nil => cases hk
    | cons q lv ih =>
      obtain ⟨a, b⟩ := q
      rw [List.lookup_cons] at hk
      by_cases e : (i == a) = true
      · rw [e] at hk
        simp at e hk
        subst e; subst hk
        exact List.mem_cons_self
      · simp only [Bool.not_eq_true] at e
        rw [e] at hk
        exact List.mem_cons_of_mem _ (ih ⟨h.1, h.2.1, fun q hq => h.2.2 q (List.mem_cons_of_mem _ hq)⟩ hk)
  exact h.2.2 (i, zz_V ad v) (List.mem_map.mpr ⟨(i, v), hm, rfl⟩)
/-- locals behind a store -/
def zz_up1 (lv : List (Nat × Value)) (i : Nat) (v : Value) : List (Nat × Value) := (i, v) :: lv.filter (fun q => !(q.1 == i) && !(q.1 + 1 == i && q.2.category == 2))
def zz_up2 (lv : List (Nat × Value)) (i : Nat) (v : Value) : List (Nat × Value) := (i, v) :: lv.filter (fun q => !(q.1 == i) && (!(q.1 == i + 1) && !(q.1 + 1 == i && q.2.category == 2)))
theorem zz_LV_up1 (ad : Nat → Nat) (lv : List (Nat × Value)) (i : Nat) (v : Value) : (i, zz_V ad v) :: (zz_LV ad lv).filter (fun q => !(q.1 == i) && !(q.1 + 1 == i && q.2.category == 2)) = zz_LV ad (zz_up1 lv i v) := by
  unfold zz_LV zz_up1
  rw [List.map_cons, List.filter_map]
  congr 2
  exact List.filter_congr (fun q _ => by simp only [Function.comp, zz_cat])
theorem zz_LV_up2 (ad : Nat → Nat) (lv : List (Nat × Value)) (i : Nat) (v : Value) : (i, zz_V ad v) :: (zz_LV ad lv).filter (fun q => !(q.1 == i) && (!(q.1 == i + 1) && !(q.1 + 1 == i && q.2.category == 2))) = zz_LV ad (zz_up2 lv i v) := by
  unfold zz_LV zz_up2
  rw [List.map_cons, List.filter_map]
  congr 2
  exact List.filter_congr (fun q _ => by simp only [Function.comp, zz_cat])
theorem zz_LV_sub {n : Nat} {ad : Nat → Nat} {ls : Array Slot} {lv lv' : List (Nat × Value)} (h : lv_has ls n (zz_LV ad lv)) (hs : ∀ q ∈ lv', q ∈ lv) : lv_has ls n (zz_LV ad lv') :=
  ⟨h.1, h.2.1, fun q hq => by
    obtain ⟨x, hx, rfl⟩ := List.mem_map.mp hq
    exact h.2.2 _ (List.mem_map.mpr ⟨x, hs x hx, rfl⟩)⟩
end ZZA
