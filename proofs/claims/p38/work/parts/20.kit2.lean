section ZZD
variable {M : zz_M} {sc : Option (Nat × (Nat → Int32))} {d rc rz : Nat} {Q : zz_Q} {pc : Nat} {lv : List (Nat × Value)} {st : List Value} {σ : zz_St}
theorem zz_min {i : Nat} {x y : Int32} (h : decode M.2.1 pc = .ok (.invokestatic i, 3)) (hw : Cond.methodLink M.2.2.2.2.1 i Lib.Math.min.name ∈ zz_g) (hd : 1 ≤ d) (hcat : (st.map fun v => v.category).sum ≤ 8) (K : zz_E M sc d rc rz Q (pc + 3) lv (.int (if y < x then y else x) :: st) σ) : zz_E M sc d rc rz Q pc lv (.int y :: .int x :: st) σ := by
  intro p l e R s m args below meth c ad G cA A mc ms S H locs cells slots ls hc hz hl hS hP
  have hts := S.2.2.2.2.2.2.1
  have hRf : d ≤ R.frames := S.2.2.2.2.2.2.2.2.2.2.2.2.2.2.1
  have hRl : 40 * d + 20 ≤ R.locals := S.2.2.2.2.2.2.2.2.2.2.2.2.2.2.2.1
  have hRc : mc ≤ R.cells := S.2.2.2.2.2.2.2.2.2.2.2.2.2.2.2.2.1
  have hRs : ms ≤ R.slots := S.2.2.2.2.2.2.2.2.2.2.2.2.2.2.2.2.2.1
  exact va_mmin S.1 S.2.1 (S.2.2.1.trans hl.1.symm) S.2.2.2.2.2.1 (hts _ hw) (hts _ zw_t_Lib_Math_min_name) (hts _ zw_n_java_lang_Math) (hts _ zw_c_Lib_Math_min_name) (by omega) (by rw [zz_cats]; omega) (by omega) (by omega) h (K p l e R s m args below meth c ad G cA A mc ms S H locs cells slots ls hc hz hl hS hP)
abbrev zz_names : List String := ["java/lang/RuntimeException", "java/lang/Exception"]
/-- 'throw new E("text")' -/
theorem zz_throw {cls text : String} {ik is ic : Nat} (hcls : Bundle.fit cls = true) (hown : M.2.2.2.2.1 = RX4) (hnt : M.2.2.2.2.2 = []) (htx : (is, text) ∈ zz_txt) (hk : Cond.classLink RX4 ik cls ∈ zz_g) (hini : Cond.initialized cls ∈ zz_g) (hat : ∀ w ∈ vx_atS RX4 ic cls zz_names, w ∈ lw_tbl ∧ vx_ot w = true) (hbd : ∀ w ∈ (vx_atS RX4 ic cls zz_names).filter (fun w => !goodWord w), w ∈ [Cond.castable cls cls, .declares (Bundle.initS "java/lang/RuntimeException"), .declares (Bundle.initS "java/lang/Exception"), .declares (Bundle.initS Bundle.tN)]) (hex : cls ∈ zz_exc)
    (d0 : decode M.2.1 pc = .ok (.new ik, 3)) (d3 : decode M.2.1 (pc + 3) = .ok (.dup, 1)) (d4 : decode M.2.1 (pc + 4) = .ok (.ldc is, 2)) (d6 : decode M.2.1 (pc + 6) = .ok (.invokespecial ic, 3)) (d9 : decode M.2.1 (pc + 9) = .ok (.athrow, 1))
    (hd : 6 ≤ d) (h1 : 1 ≤ rc) (h2 : 6 ≤ rz) (hcat : (st.map fun v => v.category).sum ≤ 8) (hQ : Q (.inr cls) σ) : zz_E M sc d rc rz Q pc lv st σ := by
  intro p l e R s m args below meth c ad G cA A mc ms S H locs cells slots ls hc hz hl hS hP
  have hts := S.2.2.2.2.2.2.1
  have hAad := S.2.2.2.2.2.2.2.2.2.2.1
  have hA := S.2.2.2.2.2.2.2.2.2.2.2.1
  have hZ := S.2.2.2.2.2.2.2.2.2.2.2.2.1
  have hRf : d ≤ R.frames := S.2.2.2.2.2.2.2.2.2.2.2.2.2.2.1
  have hRl : 40 * d + 20 ≤ R.locals := S.2.2.2.2.2.2.2.2.2.2.2.2.2.2.2.1
  have hRc : mc ≤ R.cells := S.2.2.2.2.2.2.2.2.2.2.2.2.2.2.2.2.1
  have hRs : ms ≤ R.slots := S.2.2.2.2.2.2.2.2.2.2.2.2.2.2.2.2.2.1
  obtain ⟨a, hstr⟩ := hZ.2.2.1 (is, text) htx
  have hg : ∀ w ∈ zz_g, vx_ot w = true := fun w hw => by
    unfold vx_ot
    rw [zz_g_good w hw, Bool.or_true]
  refine vx_throwS (A := A) (names := zz_names) (sa := a) (own := RX4) (text := text) S.1 S.2.1 S.2.2.2.2.2.2.2.2.2.2.2.2.2.1 (by rw [← hown]; exact S.2.2.2.2.2.1) hcls (by decide +kernel) (hts _ hk) (hts _ hini) hstr (vx_hat (B := [Cond.castable cls cls, .declares (Bundle.initS "java/lang/RuntimeException"), .declares (Bundle.initS "java/lang/Exception"), .declares (Bundle.initS Bundle.tN)]) (fun w hw => hts w (List.mem_filter.mpr ⟨(hat w (List.mem_filter.mp hw).1).1, (List.mem_filter.mp hw).2⟩)) hbd (vx_c (va_Nw.use rfl (hZ.2.2.2.2.1 _ hex)) (vx_c (va_Nw.use rfl (hZ.2.2.2.2.2 _ (by simp [zz_dec]))) (vx_c (va_Nw.use rfl (hZ.2.2.2.2.2 _ (by simp [zz_dec]))) (vx_c (va_Nw.use rfl (hZ.2.2.2.2.2 _ (by simp [zz_dec]))) vx_n))))) ?_ hZ.1 hZ.2.1 hS (hl.1.trans S.2.2.1.symm) d0 d3 d4 d6 d9 ?_ (by show 5 < R.frames; omega) (by rw [zz_cats]; show _ + 82 ≤ _; omega) (by omega) (by omega) S.2.2.2.2.1 ?_ (fun z hz => hS.2.2 z hz) (by omega) (by omega)
  · intro w hw
    rcases List.mem_cons.mp hw with rfl | hw
    · exact hg _ hk
    · rcases List.mem_cons.mp hw with rfl | hw
      · exact hg _ hini
      · exact (hat w hw).2
  · rw [S.2.2.2.2.2.2.2.1, hnt]
    intro x hx
    cases hx
  · intro t _ hsz hkeep
    refine ⟨⟨σ, hQ, hP.kept (fun k q hk => hkeep q.1 (vx_lt hP hk))⟩, Nat.le_trans hS.1 hsz, fun q hq hnA => ?_⟩
    rw [hkeep q (Nat.lt_of_lt_of_le hq hS.1)]
    exact hS.2.1 q hq hnA
theorem zz_bd_iae : ∀ w ∈ (vx_atS RX4 52 "java/lang/IllegalArgumentException" zz_names).filter (fun w => !goodWord w), w ∈ [Cond.castable "java/lang/IllegalArgumentException" "java/lang/IllegalArgumentException", .declares (Bundle.initS "java/lang/RuntimeException"), .declares (Bundle.initS "java/lang/Exception"), .declares (Bundle.initS Bundle.tN)] := by decide +kernel
theorem zz_bd_ioobe : ∀ w ∈ (vx_atS RX4 243 "java/lang/IndexOutOfBoundsException" zz_names).filter (fun w => !goodWord w), w ∈ [Cond.castable "java/lang/IndexOutOfBoundsException" "java/lang/IndexOutOfBoundsException", .declares (Bundle.initS "java/lang/RuntimeException"), .declares (Bundle.initS "java/lang/Exception"), .declares (Bundle.initS Bundle.tN)] := by decide +kernel
theorem zz_bd_ise : ∀ w ∈ (vx_atS RX4 151 "java/lang/IllegalStateException" zz_names).filter (fun w => !goodWord w), w ∈ [Cond.castable "java/lang/IllegalStateException" "java/lang/IllegalStateException", .declares (Bundle.initS "java/lang/RuntimeException"), .declares (Bundle.initS "java/lang/Exception"), .declares (Bundle.initS Bundle.tN)] := by decide +kernel
/-- a handler of a law's helper: the thrown thing is put away, a number is answered -/
def zz_hdl (M : zz_M) (hpc : Nat) (v : Int32) : Prop := (∃ (k : Fin 4) (n : Int), (k : Nat) < M.2.2.1 ∧ decode M.2.1 hpc = .ok (.astore_n k, 1) ∧ decode M.2.1 (hpc + 1) = .ok (.iconst n, 1) ∧ Int32.ofInt n = v ∧ decode M.2.1 (hpc + 1 + 1) = .ok (.ireturn, 1)) ∨
  (∃ (k : Nat) (n : Int), k < M.2.2.1 ∧ decode M.2.1 hpc = .ok (.astore k, 2) ∧ decode M.2.1 (hpc + 2) = .ok (.iconst n, 1) ∧ Int32.ofInt n = v ∧ decode M.2.1 (hpc + 2 + 1) = .ok (.ireturn, 1)) ∨
  ∃ (k : Nat) (n : Int), k < M.2.2.1 ∧ decode M.2.1 hpc = .ok (.astore k, 2) ∧ decode M.2.1 (hpc + 2) = .ok (.bipush n, 2) ∧ (Int8.ofInt n).toInt32 = v ∧ decode M.2.1 (hpc + 2 + 2) = .ok (.ireturn, 1)
/-- E thrown at pc is caught by this method, which answers v -/
def zz_cat3 (M : zz_M) (pc : Nat) (E : String) (v : Int32) : Prop := ∃ (pre suf : List (Nat × Nat × Nat × Nat)) (x : Nat × Nat × Nat × Nat), M.2.2.2.2.2 = pre ++ x :: suf ∧ (x.1 ≤ pc ∧ pc < x.2.1) ∧ x.2.2.2 ≠ 0 ∧ Cond.classLink M.2.2.2.2.1 x.2.2.2 E ∈ zz_g ∧ E ∈ zz_exc ∧ (∀ z ∈ pre, (¬ (z.1 ≤ pc ∧ pc < z.2.1)) ∨ (z.2.2.2 ≠ 0 ∧ ∃ nm, Cond.classLink M.2.2.2.2.1 z.2.2.2 nm ∈ zz_g ∧ (E, nm) ∈ zz_nc)) ∧ zz_hdl M x.2.2.1 v
theorem zz_callVX {Y : zz_M} {d2 mc2 ms2 : Nat} {as rest fs : List Value} {Q2 : zz_Q} {q ci i : Nat} {T : u_T} {N : Nat} (hC : zz_C Y d2 mc2 ms2 (.ref q :: as) σ Q2)
    (h : decode M.2.1 pc = .ok (.invokevirtual i, 3)) (hw : Cond.methodLink M.2.2.2.2.1 i Y.1 ∈ zz_g)
    (hY : Y.2.2.2.2.2 = [] ∧ Y.2.2.1 ≤ 21 ∧ Cond.instanceMethod Y.1 ∈ zz_g ∧ Cond.selects Y.1.cls Y.1 Y.1 ∈ zz_g ∧ Cond.initialized Y.1.cls ∈ zz_g ∧ Cond.code Y.1 Y.2.1 Y.2.2.1 Y.2.2.2.1 ∈ zz_g)
    (hd : (Y.1.cls ≠ "java/lang/invoke/MethodHandle" ∧ Y.1.cls ≠ "java/lang/invoke/VarHandle") ∧ (parseMethodDescriptor Y.1.desc).map (fun d => d.parameters.length) = some as.length)
    (hci : vwCl[ci]? = some (Y.1.cls, T, N)) (hq : q < 58 + zz_k σ) (hs : σ q = .inr (ci, fs)) (hst : st = as.reverse ++ .ref q :: rest) (hcat : (rest.map fun v => v.category).sum ≤ 8) (hdd : d2 + 1 ≤ d) (h1 : mc2 ≤ rc) (h2 : ms2 ≤ rz) (hr : M.2.2.2.1 = some .int)
    (K : ∀ v τ, Q2 (.inl v) τ → zz_E M sc d (rc - mc2) (rz - ms2) Q (pc + 3) lv (v.toList ++ rest) τ) (KX : ∀ E τ, Q2 (.inr E) τ → ∃ v, zz_cat3 M pc E v ∧ Q (.inl (some (.int v))) τ) : zz_E M sc d rc rz Q pc lv st σ := by
  intro p l e R s m args below meth c ad G cA A mc ms S H locs cells slots ls hc hz hl hS hP
  have hAad := S.2.2.2.2.2.2.2.2.2.2.1
  have hA := S.2.2.2.2.2.2.2.2.2.2.2.1
  have hsub := zz_sub hAad hA hS
  have hts := S.2.2.2.2.2.2.1
  have hZ := S.2.2.2.2.2.2.2.2.2.2.2.2.1
  have hK := S.2.2.2.2.2.2.2.2.1
  have hRf : d ≤ R.frames := S.2.2.2.2.2.2.2.2.2.2.2.2.2.2.1
  have hRl : 40 * d + 20 ≤ R.locals := S.2.2.2.2.2.2.2.2.2.2.2.2.2.2.2.1
  have hRc : mc ≤ R.cells := S.2.2.2.2.2.2.2.2.2.2.2.2.2.2.2.2.1
  have hRs : ms ≤ R.slots := S.2.2.2.2.2.2.2.2.2.2.2.2.2.2.2.2.2.1
  have hY2 := hY.2.1
  have he : (zz_W ad cA σ)[q]? = some (ad q, .inr (ci, fs.map (zz_V ad))) := by rw [zz_W_get hq, hs]; rfl
  have hrun := vx_runV (p := p) (l := l) (e := e) (R := R) (H := H) (locs := locs) (cells := cells) (slots := slots) (below := below) (meth := meth) (As := as.map (zz_V ad)) (rest := rest.map (zz_V ad)) (g := F0 m pc ls (st.map (zz_V ad))) (C := Y.1.cls) (bytes := Y.2.1) (maxL := Y.2.2.1) (ret := Y.2.2.2.1) (n := as.length) ⟨S.1, S.2.1, S.2.2.1, S.2.2.2.2.2.1, hts⟩ (hC l S.2.2.2.2.2.2.2.2.2.2.2.2.2.1 ad G cA H.size)
    (cwV (ws' := zz_g) as.length hts (zz_goodV hY.1 hw hY.2.2.1 hY.2.2.2.1 hY.2.2.2.2.1 hY.2.2.2.2.2) (by unfold zz_ws; rw [hY.1]) rfl rfl ⟨rfl, hd.1.1, hd.1.2, hd.2⟩ ⟨by show d2 + 1 ≤ R.frames; omega, by show 8 + (Y.2.2.1 + 11) + (40 * d2 + 20) ≤ R.locals; omega⟩)
    ⟨fun a U g mk w => ⟨w.1, zz_preA g mk a w.2⟩, va_recv hK hP hci he, fun U hU hW => ⟨rfl, by rw [hU], by rw [hU]; exact hP, va_K.moved hW.alike hK, S.2.2.2.2.2.2.2.2.2.1, by rw [hU]; exact zz_Z_down hZ hW hS.2.1 hsub⟩⟩
    rfl (List.length_map _) hl.1 (by rw [hst]; simp [zz_V, List.map_reverse]) (by show 2 * 0 + _ ≤ 8; rw [zz_cats]; omega) h ⟨by omega, by omega⟩
  intro T' hT X
  rcases hrun T' hT X with ⟨v, st₀, t, T', L, h0, X', hL, e1, e2, ⟨⟨v2, τ, hv, hQ, hP2⟩, hF⟩, hgo⟩ | ⟨q', st₀, t, T', L, E, ce, h0, X', hL, e1, e2, ⟨⟨τ, hQ, hP2⟩, hF⟩, hce, hcv, hcl, hgo⟩
  · obtain ⟨k1, k2, k3⟩ := vx_keep h0 e1 hS (fun q _ h => hsub q h) hsub hL hF
    cases hv
    have hk := K v2 τ hQ p l e R s m args below meth c ad G cA A mc ms S T'.heap (locs ++ L) (cells + mc2) (slots + ms2) ls (by omega) (by omega) hl k3 (by rw [e1]; exact hP2) T' rfl X'
    obtain ⟨t2, a1, b1⟩ := hk
    refine ⟨t2, hgo t2 ?_, b1⟩
    have e3 : (zz_Vo ad v2).toList ++ rest.map (zz_V ad) = (v2.toList ++ rest).map (zz_V ad) := by
      cases v2 <;> rfl
    rw [e3]
    exact a1
  · obtain ⟨k1, k2, k3⟩ := vx_keep h0 e1 hS (fun q _ h => hsub q h) hsub hL hF
    obtain ⟨v, ⟨pre, suf, x, hsp, hcov, hx0, hlk, hcast, hpre, hh⟩, hQv⟩ := KX E τ hQ
    have fin : ∀ (ls2 : Array Slot) (pc2 : Nat) (n : Int), decode M.2.1 pc2 = .ok (.iconst n, 1) → Int32.ofInt n = v → decode M.2.1 (pc2 + 1) = .ok (.ireturn, 1) → W p l e R s m args below meth c T'.heap (locs ++ L) (cells + mc2) (slots + ms2) (vx_MQ below (zz_Qc G cA ad A Q) (zz_Xc G cA ad A Q) args s mc ms A) (F0 m pc2 ls2 []) := by
      intro ls2 pc2 n hd1 hn hd2
      refine lv_iconst (v := v) S.1 S.2.1 hd1 hn ?_
      refine vx_ret (W.widen (k := mc) (n := ms) (by omega) (by omega) ?_)
      exact W.iret S.1 S.2.1 (S.2.2.2.1.trans hr) (fun t ht hW => ⟨⟨some (.int v), τ, rfl, hQv, by rw [ht, e1]; exact hP2⟩, k3.F ht⟩) (fun q hq => k3.2.2 q hq) hd2 S.2.2.2.2.1
    have finB : ∀ (ls2 : Array Slot) (pc2 : Nat) (n : Int), decode M.2.1 pc2 = .ok (.bipush n, 2) → (Int8.ofInt n).toInt32 = v → decode M.2.1 (pc2 + 2) = .ok (.ireturn, 1) → W p l e R s m args below meth c T'.heap (locs ++ L) (cells + mc2) (slots + ms2) (vx_MQ below (zz_Qc G cA ad A Q) (zz_Xc G cA ad A Q) args s mc ms A) (F0 m pc2 ls2 []) := by
      intro ls2 pc2 n hd1 hn hd2
      refine lv_bipush (v := v) S.1 S.2.1 hd1 hn ?_
      refine vx_ret (W.widen (k := mc) (n := ms) (by omega) (by omega) ?_)
      exact W.iret S.1 S.2.1 (S.2.2.2.1.trans hr) (fun t ht hW => ⟨⟨some (.int v), τ, rfl, hQv, by rw [ht, e1]; exact hP2⟩, k3.F ht⟩) (fun q hq => k3.2.2 q hq) hd2 S.2.2.2.2.1
    have hxw : vx_W p l e R s m args below meth c T'.heap (locs ++ L) (cells + mc2) (slots + ms2) (vx_MQ below (zz_Qc G cA ad A Q) (zz_Xc G cA ad A Q) args s mc ms A) (F0 m pc ls (rest.map (zz_V ad))) q' := by
      refine vx_catch S.2.2.2.2.2.1 (pre.map fun q => ⟨q.1, q.2.1, q.2.2.1, q.2.2.2⟩) ⟨x.1, x.2.1, x.2.2.1, x.2.2.2⟩ (suf.map fun q => ⟨q.1, q.2.1, q.2.2.1, q.2.2.2⟩) ?_ ?_ ?_ hx0 (hts _ hlk) (va_Nw.use rfl (hZ.2.2.2.2.1 _ hcast)) (by rw [e1]; exact hce) hcv hcl ?_
      · rw [S.2.2.2.2.2.2.2.1, hsp]
        unfold tableOf
        rw [List.map_append, List.map_cons]
      · intro z hz
        obtain ⟨y, hy, rfl⟩ := List.mem_map.mp hz
        rcases hpre y hy with g0 | ⟨g1, nm, g2, g3⟩
        · refine Or.inl ?_
          by_cases q1 : y.1 ≤ pc
          · have q2 : ¬ pc < y.2.1 := fun q => g0 ⟨q1, q⟩
            simp [covers, q1, q2]
          · simp [covers, q1]
        · exact Or.inr ⟨g1, nm, hts _ g2, hZ.2.2.2.1 _ g3⟩
      · simp [covers, hcov.1, hcov.2]
      · rcases hh with ⟨k, n, g0, g1, g2, g3, g4⟩ | ⟨k, n, g0, g1, g2, g3, g4⟩ | ⟨k, n, g0, g1, g2, g3, g4⟩
        · exact lv_astore_n S.1 S.2.1 g1 rfl hl g0 rfl (fun ls2 _ => fin ls2 _ n g2 g3 g4)
        · exact lv_astore S.1 S.2.1 g1 hl g0 rfl (fun ls2 _ => fin ls2 _ n g2 g3 g4)
        · exact lv_astore S.1 S.2.1 g1 hl g0 rfl (fun ls2 _ => finB ls2 _ n g2 g3 g4)
    obtain ⟨t2, a1, b1⟩ := hxw T' rfl X'
    exact ⟨t2, hgo.trans a1, b1⟩
/-- a helper's contract out of its body -/
theorem zz_startH {mc ms : Nat} {as : List Value} {x : Nat × Nat × Nat × Nat} {hs : List (Nat × Nat × Nat × Nat)} (hy : plainName M.1.cls = true) (hown : M.2.2.2.2.1 = M.1.cls) (hh : M.2.2.2.2.2 = x :: hs) (hn : (lg_sl as).length ≤ M.2.2.1) (K : zz_E M none d mc ms Q 0 (lv_args 0 as) [] σ) : zz_C M d mc ms as σ Q := by
  intro l hfl ad G cA sz
  refine vx_ofWH (cc := M.2.1) (maxL := M.2.2.1) (ret := M.2.2.2.1) (ws' := zz_g) (hh := M.2.2.2.2.2) hy (by unfold zz_ws; rw [hh]) ?_
  intro p e s m args below meth c s₁ B hml hv
  obtain ⟨rfl, hsz, hP, hK, hinj, hZ⟩ := hv
  have hts := atoms_spec (ws := zz_ws M) B.pre
  have hl := lv_entry (as.map (zz_V ad)) (n := M.2.2.1) (by rw [zz_sl]; exact hn)
  rw [lg_entry_eq]
  rw [zz_args] at hl
  subst hsz
  have hA : ∀ q : Nat, s.heap.size ≤ q → zz_A ad s.heap.size q := fun q h => Or.inr h
  refine K p l e _ s m _ below meth c ad G cA (zz_A ad s.heap.size) mc ms ⟨B.exec, B.bytes, hml, B.returns, B.notSynchronized, ?_, ?_, ?_, hK, hinj, fun k hk => Or.inl ⟨k, hk, rfl⟩, hA, hZ, hfl, Nat.le_refl _, Nat.le_refl _, Nat.le_refl _, Nat.le_refl _, trivial⟩ s.heap [] 0 0 _ (by omega) (by omega) hl va_S.rf hP
  · rw [hown]; exact findClass_of_methodNamed B.named
  · exact fun w hw => hts w (List.mem_cons_of_mem _ hw)
  · exact vx_table (x := M.1) (y := M.1) (bytes := M.2.1) (maxL' := M.2.2.1) (ret' := M.2.2.2.1) B (hts _ (by unfold zz_ws; rw [hh]; exact List.mem_cons_self))
theorem zz_goodSH {Y : zz_M} {own : String} {i : Nat} {x : Nat × Nat × Nat × Nat} {hs : List (Nat × Nat × Nat × Nat)} (hh : Y.2.2.2.2.2 = x :: hs) (h1 : Cond.methodLink own i Y.1 ∈ zz_g) (h2 : Cond.static Y.1 ∈ zz_g) (h4 : Cond.initialized Y.1.cls ∈ zz_g) (h5 : Cond.codeWith Y.1 Y.2.1 Y.2.2.1 Y.2.2.2.1 Y.2.2.2.2.2 ∈ zz_g) : GoodIn zz_g (va_wsS own i Y.1 (zz_ws Y)) := by
  have hall : ∀ w ∈ va_wsS own i Y.1 (zz_ws Y), w ∈ zz_g := by
    intro w hw
    unfold va_wsS zz_ws at hw
    rw [hh] at hw h5
    simp only [List.mem_append, List.mem_cons, List.not_mem_nil, or_false] at hw
    rcases hw with (rfl | rfl | rfl) | rfl | hw
    · exact h1
    · exact h2
    · exact h4
    · exact h5
    · exact hw
  exact fun w hw => ⟨hall w hw, good_of_word (zz_g_good w (hall w hw))⟩
/-- the law calls a helper -/
theorem zz_callSH {Y : zz_M} {d2 mc2 ms2 : Nat} {as rest : List Value} {Q2 : zz_Q} {i : Nat} {x : Nat × Nat × Nat × Nat} {hs : List (Nat × Nat × Nat × Nat)} (hh : Y.2.2.2.2.2 = x :: hs) (hC : zz_C Y d2 mc2 ms2 as σ Q2)
    (h : decode M.2.1 pc = .ok (.invokestatic i, 3)) (hw : Cond.methodLink M.2.2.2.2.1 i Y.1 ∈ zz_g)
    (hY : Y.2.2.1 ≤ 21 ∧ Cond.static Y.1 ∈ zz_g ∧ Cond.initialized Y.1.cls ∈ zz_g ∧ Cond.codeWith Y.1 Y.2.1 Y.2.2.1 Y.2.2.2.1 Y.2.2.2.2.2 ∈ zz_g)
    (hd : (Y.1.cls ≠ "java/lang/invoke/MethodHandle" ∧ Y.1.cls ≠ "java/lang/invoke/VarHandle") ∧ (parseMethodDescriptor Y.1.desc).map (fun d => d.parameters.length) = some as.length)
    (hst : st = as.reverse ++ rest) (hcat : (rest.map fun v => v.category).sum ≤ 8) (hdd : d2 + 1 ≤ d) (h1 : mc2 ≤ rc) (h2 : ms2 ≤ rz) (hnt : M.2.2.2.2.2 = [])
    (K : ∀ v τ, Q2 (.inl v) τ → zz_E M sc d (rc - mc2) (rz - ms2) Q (pc + 3) lv (v.toList ++ rest) τ) (KX : ∀ E τ, Q2 (.inr E) τ → Q (.inr E) τ) : zz_E M sc d rc rz Q pc lv st σ := by
  intro p l e R s m args below meth c ad G cA A mc ms S H locs cells slots ls hc hz hl hS hP
  have hsub := zz_sub S.2.2.2.2.2.2.2.2.2.2.1 S.2.2.2.2.2.2.2.2.2.2.2.1 hS
  have hK := S.2.2.2.2.2.2.2.2.1
  have hRf : d ≤ R.frames := S.2.2.2.2.2.2.2.2.2.2.2.2.2.2.1
  have hRl : 40 * d + 20 ≤ R.locals := S.2.2.2.2.2.2.2.2.2.2.2.2.2.2.2.1
  have hRc : mc ≤ R.cells := S.2.2.2.2.2.2.2.2.2.2.2.2.2.2.2.2.1
  have hRs : ms ≤ R.slots := S.2.2.2.2.2.2.2.2.2.2.2.2.2.2.2.2.2.1
  have hY2 := hY.1
  refine zz_after h1 h2 hnt K KX S hc hz hl hS (av := (as.map (zz_V ad)).toArray) ?_
  refine vx_runSX (hh := Y.2.2.2.2.2) (As := as.map (zz_V ad)) (bytes := Y.2.1) (maxL := Y.2.2.1) (ret := Y.2.2.2.1) (n := as.length) ⟨S.1, S.2.1, S.2.2.1, S.2.2.2.2.2.1, S.2.2.2.2.2.2.1⟩ (hC l S.2.2.2.2.2.2.2.2.2.2.2.2.2.1 ad G cA H.size)
    (vx_cwSW (ws' := zz_g) as.length S.2.2.2.2.2.2.1 (zz_goodSH hh hw hY.2.1 hY.2.2.1 hY.2.2.2) (by unfold zz_ws; rw [hh]) rfl rfl ⟨hd.1.1, hd.1.2, hd.2⟩ ⟨by show d2 + 1 ≤ R.frames; omega, by show 8 + (Y.2.2.1 + 11) + (40 * d2 + 20) ≤ R.locals; omega⟩)
    ⟨fun a U g mk w => ⟨w.1, zz_preA g mk a w.2⟩, fun U hU hW => ⟨rfl, by rw [hU], by rw [hU]; exact hP, va_K.moved hW.alike hK, S.2.2.2.2.2.2.2.2.2.1, by rw [hU]; exact zz_Z_down S.2.2.2.2.2.2.2.2.2.2.2.2.1 hW hS.2.1 hsub⟩⟩
    rfl (List.length_map _) hl.1 (by rw [hst]; simp [List.map_reverse]) (by show 2 * 0 + _ ≤ 8; rw [zz_cats]; omega) h ⟨by omega, by omega⟩
end ZZD
