section ZZC
variable {M : zz_M} {sc : Option (Nat × (Nat → Int32))} {d rc rz : Nat} {Q : zz_Q} {pc : Nat} {lv : List (Nat × Value)} {st : List Value} {σ : zz_St}
theorem zz_sub {A : Nat → Prop} {ad : Nat → Nat} {s : State} {H : Heap} {locs : List Loc} (h1 : ∀ k, k < 60 → A (ad k)) (h2 : ∀ q, s.heap.size ≤ q → A q) (hS : va_S A s.heap H locs) : ∀ q, zz_A ad H.size q → A q := by
  rintro q (⟨k, hk, rfl⟩ | h)
  · exact h1 k hk
  · exact h2 q (Nat.le_trans hS.1 h)
/-- fewer claims of the end -/
theorem zz_mono {Q1 : zz_Q} (h : ∀ o τ, Q1 o τ → Q o τ) (K : zz_E M sc d rc rz Q1 pc lv st σ) : zz_E M sc d rc rz Q pc lv st σ := by
  intro p l e R s m args below meth c ad G cA A mc ms S H locs cells slots ls hc hz hl hS hP T hT X
  obtain ⟨t, a1, o, b1, b2, b3⟩ := K p l e R s m args below meth c ad G cA A mc ms S H locs cells slots ls hc hz hl hS hP T hT X
  refine ⟨t, a1, o, b1, b2, ?_⟩
  rcases b3 with ⟨⟨⟨v, τ, c1, c2, c3⟩, c4⟩, c5⟩ | ⟨q, c1, E, ce, L, ⟨⟨τ, c2, c3⟩, c4⟩, c5⟩
  · exact Or.inl ⟨⟨⟨v, τ, c1, h _ _ c2, c3⟩, c4⟩, c5⟩
  · exact Or.inr ⟨q, c1, E, ce, L, ⟨⟨τ, h _ _ c2, c3⟩, c4⟩, c5⟩
theorem zz_less {rc1 rz1 : Nat} (h1 : rc1 ≤ rc) (h2 : rz1 ≤ rz) (K : zz_E M sc d rc1 rz1 Q pc lv st σ) : zz_E M sc d rc rz Q pc lv st σ := by
  intro p l e R s m args below meth c ad G cA A mc ms S H locs cells slots ls hc hz hl hS hP
  exact K p l e R s m args below meth c ad G cA A mc ms S H locs cells slots ls (by omega) (by omega) hl hS hP
/-! ends -/
theorem zz_iret {x : Int32} (h : decode M.2.1 pc = .ok (.ireturn, 1)) (hr : M.2.2.2.1 = some .int) (hQ : Q (.inl (some (.int x))) σ) : zz_E M sc d rc rz Q pc lv [.int x] σ := by
  intro p l e R s m args below meth c ad G cA A mc ms S H locs cells slots ls hc hz hl hS hP
  refine vx_ret (W.widen (k := mc) (n := ms) (by omega) (by omega) ?_)
  exact W.iret S.1 S.2.1 (S.2.2.2.1.trans hr) (fun t ht hW => ⟨⟨some (.int x), σ, rfl, hQ, by rw [ht]; exact hP⟩, hS.F ht⟩) (fun q hq => hS.2.2 q hq) h S.2.2.2.2.1
theorem zz_zret {x : Int32} (h : decode M.2.1 pc = .ok (.ireturn, 1)) (hr : M.2.2.2.1 = some .boolean) (hn : narrow .boolean (.int x) = .int x) (hQ : Q (.inl (some (.int x))) σ) : zz_E M sc d rc rz Q pc lv [.int x] σ := by
  intro p l e R s m args below meth c ad G cA A mc ms S H locs cells slots ls hc hz hl hS hP
  refine vx_ret (W.widen (k := mc) (n := ms) (by omega) (by omega) ?_)
  exact W.zret S.1 S.2.1 (S.2.2.2.1.trans hr) hn (fun t ht hW => ⟨⟨some (.int x), σ, rfl, hQ, by rw [ht]; exact hP⟩, hS.F ht⟩) (fun q hq => hS.2.2 q hq) h S.2.2.2.2.1
theorem zz_lret {x : Int64} (h : decode M.2.1 pc = .ok (.lreturn, 1)) (hr : M.2.2.2.1 = some .long) (hQ : Q (.inl (some (.long x))) σ) : zz_E M sc d rc rz Q pc lv [.long x] σ := by
  intro p l e R s m args below meth c ad G cA A mc ms S H locs cells slots ls hc hz hl hS hP
  refine vx_ret (W.widen (k := mc) (n := ms) (by omega) (by omega) ?_)
  exact W.lret S.1 S.2.1 (S.2.2.2.1.trans hr) (fun t ht hW => ⟨⟨some (.long x), σ, rfl, hQ, by rw [ht]; exact hP⟩, hS.F ht⟩) (fun q hq => hS.2.2 q hq) h S.2.2.2.2.1
theorem zz_fret {x : UInt32} (h : decode M.2.1 pc = .ok (.freturn, 1)) (hr : M.2.2.2.1 = some .float) (hQ : Q (.inl (some (.float x))) σ) : zz_E M sc d rc rz Q pc lv [.float x] σ := by
  intro p l e R s m args below meth c ad G cA A mc ms S H locs cells slots ls hc hz hl hS hP
  refine vx_ret (W.widen (k := mc) (n := ms) (by omega) (by omega) ?_)
  exact W.fret S.1 S.2.1 (S.2.2.2.1.trans hr) (fun t ht hW => ⟨⟨some (.float x), σ, rfl, hQ, by rw [ht]; exact hP⟩, hS.F ht⟩) (fun q hq => hS.2.2 q hq) h S.2.2.2.2.1
theorem zz_dret {x : UInt64} (h : decode M.2.1 pc = .ok (.dreturn, 1)) (hr : M.2.2.2.1 = some .double) (hQ : Q (.inl (some (.double x))) σ) : zz_E M sc d rc rz Q pc lv [.double x] σ := by
  intro p l e R s m args below meth c ad G cA A mc ms S H locs cells slots ls hc hz hl hS hP
  refine vx_ret (W.widen (k := mc) (n := ms) (by omega) (by omega) ?_)
  exact W.dret S.1 S.2.1 (S.2.2.2.1.trans hr) (fun t ht hW => ⟨⟨some (.double x), σ, rfl, hQ, by rw [ht]; exact hP⟩, hS.F ht⟩) (fun q hq => hS.2.2 q hq) h S.2.2.2.2.1
theorem zz_aret {x : Nat} {nm : String} (h : decode M.2.1 pc = .ok (.areturn, 1)) (hr : M.2.2.2.1 = some (.object nm)) (hQ : Q (.inl (some (.ref x))) σ) : zz_E M sc d rc rz Q pc lv [.ref x] σ := by
  intro p l e R s m args below meth c ad G cA A mc ms S H locs cells slots ls hc hz hl hS hP
  refine vx_ret (W.widen (k := mc) (n := ms) (by omega) (by omega) ?_)
  exact W.aret S.1 S.2.1 (S.2.2.2.1.trans hr) (Or.inl ⟨nm, rfl⟩) (Or.inr ⟨ad x, rfl⟩) (fun t ht hW => ⟨⟨some (.ref x), σ, rfl, hQ, by rw [ht]; exact hP⟩, hS.F ht⟩) (fun q hq => hS.2.2 q hq) h S.2.2.2.2.1
theorem zz_vret (h : decode M.2.1 pc = .ok (.return_, 1)) (hr : M.2.2.2.1 = none) (hQ : Q (.inl none) σ) : zz_E M sc d rc rz Q pc lv [] σ := by
  intro p l e R s m args below meth c ad G cA A mc ms S H locs cells slots ls hc hz hl hS hP
  refine vx_ret (W.widen (k := mc) (n := ms) (by omega) (by omega) ?_)
  exact W.vret S.1 S.2.1 (S.2.2.2.1.trans hr) (fun t ht hW => ⟨⟨none, σ, rfl, hQ, by rw [ht]; exact hP⟩, hS.F ht⟩) (fun q hq => hS.2.2 q hq) h S.2.2.2.2.1
/-! a method's contract out of its body -/
theorem zz_preA {ad : Nat → Nat} {G : va_G} {cA : Nat → ClassId} {sz : Nat} {τ : zz_St} {U : State} (g : JFrame) (mk : MethodId) (a : Array Value) (h : zz_pre ad G cA sz τ U) : zz_pre ad G cA sz τ (U.calling g mk a) :=
  ⟨h.1, h.2.1, va_K.moved (u := U) (U := U.calling g mk a) (Vm.Alike.refl U.vm) h.2.2.1, h.2.2.2.1, zz_Z_call g mk a h.2.2.2.2⟩
theorem zz_start {mc ms : Nat} {as : List Value} (hy : plainName M.1.cls = true) (hown : M.2.2.2.2.1 = M.1.cls) (hh : M.2.2.2.2.2 = []) (hn : (lg_sl as).length ≤ M.2.2.1) (K : zz_E M none d mc ms Q 0 (lv_args 0 as) [] σ) : zz_C M d mc ms as σ Q := by
  intro l hfl ad G cA sz
  refine vx_ofW (cc := M.2.1) (maxL := M.2.2.1) (ret := M.2.2.2.1) (ws' := zz_g) hy (by unfold zz_ws; rw [hh]) ?_
  intro p e s m args below meth c s₁ B hml hexc hv
  obtain ⟨rfl, hsz, hP, hK, hinj, hZ⟩ := hv
  have hts := atoms_spec (ws := zz_ws M) B.pre
  have hl := lv_entry (as.map (zz_V ad)) (n := M.2.2.1) (by rw [zz_sl]; exact hn)
  rw [lg_entry_eq]
  rw [zz_args] at hl
  subst hsz
  have hA : ∀ q : Nat, s.heap.size ≤ q → zz_A ad s.heap.size q := fun q h => Or.inr h
  refine K p l e _ s m _ below meth c ad G cA (zz_A ad s.heap.size) mc ms ⟨B.exec, B.bytes, hml, B.returns, B.notSynchronized, ?_, ?_, ?_, hK, hinj, fun k hk => Or.inl ⟨k, hk, rfl⟩, hA, hZ, hfl, Nat.le_refl _, Nat.le_refl _, Nat.le_refl _, Nat.le_refl _, trivial⟩ s.heap [] 0 0 _ (by omega) (by omega) hl va_S.rf hP
  · rw [hown]; exact findClass_of_methodNamed B.named
  · exact fun w hw => hts w (List.mem_cons_of_mem _ hw)
  · rw [hh]
    exact List.eq_nil_iff_forall_not_mem.mpr (fun x hx => hexc x hx)
/-! calls -/
theorem zz_goodV {Y : zz_M} {own C : String} {i : Nat} (hh : Y.2.2.2.2.2 = []) (h1 : Cond.methodLink own i Y.1 ∈ zz_g) (h2 : Cond.instanceMethod Y.1 ∈ zz_g) (h3 : Cond.selects C Y.1 Y.1 ∈ zz_g) (h4 : Cond.initialized C ∈ zz_g) (h5 : Cond.code Y.1 Y.2.1 Y.2.2.1 Y.2.2.2.1 ∈ zz_g) : GoodIn zz_g (wsV own i C Y.1 (zz_ws Y)) := by
  have hall : ∀ w ∈ wsV own i C Y.1 (zz_ws Y), w ∈ zz_g := by
    intro w hw
    unfold wsV zz_ws at hw
    rw [hh] at hw
    simp only [List.mem_append, List.mem_cons, List.not_mem_nil, or_false] at hw
    rcases hw with (rfl | rfl | rfl | rfl) | rfl | hw
    · exact h1
    · exact h2
    · exact h3
    · exact h4
    · exact h5
    · exact hw
  exact fun w hw => ⟨hall w hw, good_of_word (zz_g_good w (hall w hw))⟩
theorem zz_goodS {Y : zz_M} {own : String} {i : Nat} (hh : Y.2.2.2.2.2 = []) (h1 : Cond.methodLink own i Y.1 ∈ zz_g) (h2 : Cond.static Y.1 ∈ zz_g) (h4 : Cond.initialized Y.1.cls ∈ zz_g) (h5 : Cond.code Y.1 Y.2.1 Y.2.2.1 Y.2.2.2.1 ∈ zz_g) : GoodIn zz_g (va_wsS own i Y.1 (zz_ws Y)) := by
  have hall : ∀ w ∈ va_wsS own i Y.1 (zz_ws Y), w ∈ zz_g := by
    intro w hw
    unfold va_wsS zz_ws at hw
    rw [hh] at hw
    simp only [List.mem_append, List.mem_cons, List.not_mem_nil, or_false] at hw
    rcases hw with (rfl | rfl | rfl) | rfl | hw
    · exact h1
    · exact h2
    · exact h4
    · exact h5
    · exact hw
  exact fun w hw => ⟨hall w hw, good_of_word (zz_g_good w (hall w hw))⟩
/-- what a call's run gives, gone on with -/
theorem zz_after {mc2 ms2 : Nat} {Q2 : zz_Q} {rest : List Value} (h1 : mc2 ≤ rc) (h2 : ms2 ≤ rz) (hnt : M.2.2.2.2.2 = [])
    (K : ∀ v τ, Q2 (.inl v) τ → zz_E M sc d (rc - mc2) (rz - ms2) Q (pc + 3) lv (v.toList ++ rest) τ) (KX : ∀ E τ, Q2 (.inr E) τ → Q (.inr E) τ)
    {p : Program} {l : Launch} {e : Env} {R : Room} {s : State} {m : MethodId} {args : Array Value} {below : List Frame} {meth : Method} {c : Code} {ad : Nat → Nat} {G : va_G} {cA : Nat → ClassId} {A : Nat → Prop} {mc ms : Nat} (S : zz_S M sc d p l R s m args meth c ad G cA A mc ms)
    {H : Heap} {locs : List Loc} {cells slots : Nat} {ls : Array Slot} {av : Array Value} (hc : cells + rc ≤ mc) (hz : slots + rz ≤ ms) (hl : lv_has ls M.2.2.1 (zz_LV ad lv)) (hS : va_S A s.heap H locs)
    {st0 : List Value}
    (hrun : vx_Run p l e R s m args below meth c H locs cells slots mc2 ms2 (F0 m pc ls st0) (rest.map (zz_V ad)) (zz_Qc G cA ad (zz_A ad H.size) Q2 av) (zz_Xc G cA ad (zz_A ad H.size) Q2) (zz_A ad H.size)) :
    W p l e R s m args below meth c H locs cells slots (vx_MQ below (zz_Qc G cA ad A Q) (zz_Xc G cA ad A Q) args s mc ms A) (F0 m pc ls st0) := by
  have hAad := S.2.2.2.2.2.2.2.2.2.2.1
  have hA := S.2.2.2.2.2.2.2.2.2.2.2.1
  have hsub := zz_sub hAad hA hS
  intro T hT X
  rcases hrun T hT X with ⟨v, st₀, t, T', L, h0, X', hL, e1, e2, ⟨⟨v2, τ, hv, hQ, hP2⟩, hF⟩, hgo⟩ | ⟨q, st₀, t, T', L, E, ce, h0, X', hL, e1, e2, ⟨⟨τ, hQ, hP2⟩, hF⟩, hce, hcv, hcl, hgo⟩
  · obtain ⟨k1, k2, k3⟩ := vx_keep h0 e1 hS (fun q _ h => hsub q h) hsub hL hF
    cases hv
    have hk := K v2 τ hQ p l e R s m args below meth c ad G cA A mc ms S T'.heap (locs ++ L) (cells + mc2) (slots + ms2) ls (by omega) (by omega) hl k3 (by rw [e1]; exact hP2) T' rfl X'
    obtain ⟨t2, a1, b1⟩ := hk
    refine ⟨t2, hgo t2 ?_, b1⟩
    have e3 : (zz_Vo ad v2).toList ++ rest.map (zz_V ad) = (v2.toList ++ rest).map (zz_V ad) := by
      cases v2 <;> rfl
    rw [e3]
    exact a1
  · obtain ⟨k1, k2, k3⟩ := vx_keep h0 e1 hS (fun q _ h => hsub q h) hsub hL hF
    have hno : ∀ x ∈ c.exceptionTable.toList, covers x pc = false := by
      rw [S.2.2.2.2.2.2.2.1, hnt]
      intro x hx
      cases hx
    have hx : vx_W p l e R s m args below meth c T'.heap (locs ++ L) (cells + mc2) (slots + ms2) (vx_MQ below (zz_Qc G cA ad A Q) (zz_Xc G cA ad A Q) args s mc ms A) (F0 m pc ls (rest.map (zz_V ad))) q :=
      vx_out hno S.2.2.2.2.1 (by rw [e1]; exact hce) hcv hcl (fun t3 ht3 _ => ⟨⟨τ, KX E τ hQ, by rw [ht3, e1]; exact hP2⟩, k3.F ht3⟩) (fun z hz => k3.2.2 z hz) (by omega) (by omega)
    obtain ⟨t2, a1, b1⟩ := hx T' rfl X'
    exact ⟨t2, hgo.trans a1, b1⟩
theorem zz_callV {Y : zz_M} {d2 mc2 ms2 : Nat} {as rest fs : List Value} {Q2 : zz_Q} {q ci i : Nat} {T : u_T} {N : Nat} (hC : zz_C Y d2 mc2 ms2 (.ref q :: as) σ Q2)
    (h : decode M.2.1 pc = .ok (.invokevirtual i, 3)) (hw : Cond.methodLink M.2.2.2.2.1 i Y.1 ∈ zz_g)
    (hY : Y.2.2.2.2.2 = [] ∧ Y.2.2.1 ≤ 21 ∧ Cond.instanceMethod Y.1 ∈ zz_g ∧ Cond.selects Y.1.cls Y.1 Y.1 ∈ zz_g ∧ Cond.initialized Y.1.cls ∈ zz_g ∧ Cond.code Y.1 Y.2.1 Y.2.2.1 Y.2.2.2.1 ∈ zz_g)
    (hd : (Y.1.cls ≠ "java/lang/invoke/MethodHandle" ∧ Y.1.cls ≠ "java/lang/invoke/VarHandle") ∧ (parseMethodDescriptor Y.1.desc).map (fun d => d.parameters.length) = some as.length)
    (hci : vwCl[ci]? = some (Y.1.cls, T, N)) (hq : q < 58 + zz_k σ) (hs : σ q = .inr (ci, fs)) (hst : st = as.reverse ++ .ref q :: rest) (hcat : (rest.map fun v => v.category).sum ≤ 8) (hdd : d2 + 1 ≤ d) (h1 : mc2 ≤ rc) (h2 : ms2 ≤ rz) (hnt : M.2.2.2.2.2 = [])
    (K : ∀ v τ, Q2 (.inl v) τ → zz_E M sc d (rc - mc2) (rz - ms2) Q (pc + 3) lv (v.toList ++ rest) τ) (KX : ∀ E τ, Q2 (.inr E) τ → Q (.inr E) τ) : zz_E M sc d rc rz Q pc lv st σ := by
  intro p l e R s m args below meth c ad G cA A mc ms S H locs cells slots ls hc hz hl hS hP
  have hsub := zz_sub S.2.2.2.2.2.2.2.2.2.2.1 S.2.2.2.2.2.2.2.2.2.2.2.1 hS
  have hK := S.2.2.2.2.2.2.2.2.1
  have hRf : d ≤ R.frames := S.2.2.2.2.2.2.2.2.2.2.2.2.2.2.1
  have hRl : 40 * d + 20 ≤ R.locals := S.2.2.2.2.2.2.2.2.2.2.2.2.2.2.2.1
  have hRc : mc ≤ R.cells := S.2.2.2.2.2.2.2.2.2.2.2.2.2.2.2.2.1
  have hRs : ms ≤ R.slots := S.2.2.2.2.2.2.2.2.2.2.2.2.2.2.2.2.2.1
  have hY2 := hY.2.1
  have he : (zz_W ad cA σ)[q]? = some (ad q, .inr (ci, fs.map (zz_V ad))) := by rw [zz_W_get hq, hs]; rfl
  refine zz_after h1 h2 hnt K KX S hc hz hl hS (av := (Value.ref (ad q) :: as.map (zz_V ad)).toArray) ?_
  refine vx_runV (As := as.map (zz_V ad)) (C := Y.1.cls) (bytes := Y.2.1) (maxL := Y.2.2.1) (ret := Y.2.2.2.1) (n := as.length) ⟨S.1, S.2.1, S.2.2.1, S.2.2.2.2.2.1, S.2.2.2.2.2.2.1⟩ (hC l S.2.2.2.2.2.2.2.2.2.2.2.2.2.1 ad G cA H.size)
    (cwV (ws' := zz_g) as.length S.2.2.2.2.2.2.1 (zz_goodV hY.1 hw hY.2.2.1 hY.2.2.2.1 hY.2.2.2.2.1 hY.2.2.2.2.2) (by unfold zz_ws; rw [hY.1]) rfl rfl ⟨rfl, hd.1.1, hd.1.2, hd.2⟩ ⟨by show d2 + 1 ≤ R.frames; omega, by show 8 + (Y.2.2.1 + 11) + (40 * d2 + 20) ≤ R.locals; omega⟩)
    ⟨fun a U g mk w => ⟨w.1, zz_preA g mk a w.2⟩, va_recv hK hP hci he, fun U hU hW => ⟨rfl, by rw [hU], by rw [hU]; exact hP, va_K.moved hW.alike hK, S.2.2.2.2.2.2.2.2.2.1, by rw [hU]; exact zz_Z_down S.2.2.2.2.2.2.2.2.2.2.2.2.1 hW hS.2.1 hsub⟩⟩
    rfl (List.length_map _) hl.1 (by rw [hst]; simp [zz_V, List.map_reverse]) (by show 2 * 0 + _ ≤ 8; rw [zz_cats]; omega) h ⟨by omega, by omega⟩
theorem zz_callS {Y : zz_M} {d2 mc2 ms2 : Nat} {as rest : List Value} {Q2 : zz_Q} {i : Nat} (hC : zz_C Y d2 mc2 ms2 as σ Q2)
    (h : decode M.2.1 pc = .ok (.invokestatic i, 3)) (hw : Cond.methodLink M.2.2.2.2.1 i Y.1 ∈ zz_g)
    (hY : Y.2.2.2.2.2 = [] ∧ Y.2.2.1 ≤ 21 ∧ Cond.static Y.1 ∈ zz_g ∧ Cond.initialized Y.1.cls ∈ zz_g ∧ Cond.code Y.1 Y.2.1 Y.2.2.1 Y.2.2.2.1 ∈ zz_g)
    (hd : (Y.1.cls ≠ "java/lang/invoke/MethodHandle" ∧ Y.1.cls ≠ "java/lang/invoke/VarHandle") ∧ (parseMethodDescriptor Y.1.desc).map (fun d => d.parameters.length) = some as.length)
    (hst : st = as.reverse ++ rest) (hcat : (rest.map fun v => v.category).sum ≤ 8) (hdd : d2 + 1 ≤ d) (h1 : mc2 ≤ rc) (h2 : ms2 ≤ rz) (hnt : M.2.2.2.2.2 = [])
    (K : ∀ v τ, Q2 (.inl v) τ → zz_E M sc d (rc - mc2) (rz - ms2) Q (pc + 3) lv (v.toList ++ rest) τ) (KX : ∀ E τ, Q2 (.inr E) τ → Q (.inr E) τ) : zz_E M sc d rc rz Q pc lv st σ := by
  intro p l e R s m args below meth c ad G cA A mc ms S H locs cells slots ls hc hz hl hS hP
  have hsub := zz_sub S.2.2.2.2.2.2.2.2.2.2.1 S.2.2.2.2.2.2.2.2.2.2.2.1 hS
  have hK := S.2.2.2.2.2.2.2.2.1
  have hRf : d ≤ R.frames := S.2.2.2.2.2.2.2.2.2.2.2.2.2.2.1
  have hRl : 40 * d + 20 ≤ R.locals := S.2.2.2.2.2.2.2.2.2.2.2.2.2.2.2.1
  have hRc : mc ≤ R.cells := S.2.2.2.2.2.2.2.2.2.2.2.2.2.2.2.2.1
  have hRs : ms ≤ R.slots := S.2.2.2.2.2.2.2.2.2.2.2.2.2.2.2.2.2.1
  have hY2 := hY.2.1
  refine zz_after h1 h2 hnt K KX S hc hz hl hS (av := (as.map (zz_V ad)).toArray) ?_
  refine vx_runS (As := as.map (zz_V ad)) (bytes := Y.2.1) (maxL := Y.2.2.1) (ret := Y.2.2.2.1) (n := as.length) ⟨S.1, S.2.1, S.2.2.1, S.2.2.2.2.2.1, S.2.2.2.2.2.2.1⟩ (hC l S.2.2.2.2.2.2.2.2.2.2.2.2.2.1 ad G cA H.size)
    (va_cwS (ws' := zz_g) as.length S.2.2.2.2.2.2.1 (zz_goodS hY.1 hw hY.2.2.1 hY.2.2.2.1 hY.2.2.2.2) (by unfold zz_ws; rw [hY.1]) rfl rfl ⟨hd.1.1, hd.1.2, hd.2⟩ ⟨by show d2 + 1 ≤ R.frames; omega, by show 8 + (Y.2.2.1 + 11) + (40 * d2 + 20) ≤ R.locals; omega⟩)
    ⟨fun a U g mk w => ⟨w.1, zz_preA g mk a w.2⟩, fun U hU hW => ⟨rfl, by rw [hU], by rw [hU]; exact hP, va_K.moved hW.alike hK, S.2.2.2.2.2.2.2.2.2.1, by rw [hU]; exact zz_Z_down S.2.2.2.2.2.2.2.2.2.2.2.2.1 hW hS.2.1 hsub⟩⟩
    rfl (List.length_map _) hl.1 (by rw [hst]; simp [List.map_reverse]) (by show 2 * 0 + _ ≤ 8; rw [zz_cats]; omega) h ⟨by omega, by omega⟩
end ZZC
