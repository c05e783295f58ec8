section ZZNS
/-! 'throw new NoSuchElementException("text")': its constructor passes on by the link 13, those above by 7 -/
abbrev zn_X : String := "java/util/NoSuchElementException"
abbrev zn_Y : String := "java/lang/RuntimeException"
def zn_rx : ByteArray := ⟨#[0x2a, 0x2b, 0xb7, 0x00, 0x0d, 0xb1]⟩
theorem zn_0 : decode zn_rx 0 = .ok (.aload_n 0, 1) := by decide +kernel
theorem zn_1 : decode zn_rx 1 = .ok (.aload_n 1, 1) := by decide +kernel
theorem zn_2 : decode zn_rx 2 = .ok (.invokespecial 13, 3) := by decide +kernel
theorem zn_5 : decode zn_rx 5 = .ok (.return_, 1) := by decide +kernel
abbrev zn_ups : List String := ["java/lang/Exception"]
/-- what this throw reads of the tables -/
def zn_W : List Cond := Bundle.throwableAtoms ++ (Bundle.throwableSAtoms ++ (Bundle.passSAtoms zn_X zn_Y 13 zn_rx ++ (Bundle.chainSAtoms zn_Y zn_ups ++
  [.methodLink RX4 231 (Bundle.initS zn_X), .instantiable zn_X 6, .castable zn_X zn_X, .selects zn_X Bundle.tFill0 Bundle.tFill0, .selects zn_X Bundle.tFill Bundle.tFill,
   .lays zn_X Bundle.tN "cause" "Ljava/lang/Throwable;", .lays zn_X Bundle.tN "stackTrace" Bundle.steD, .lays zn_X Bundle.tN "suppressedExceptions" Bundle.listD, .lays zn_X Bundle.tN "detailMessage" "Ljava/lang/String;",
   .isRef (.static Bundle.tN "UNASSIGNED_STACK" Bundle.steD), .isRef (.static Bundle.tN "SUPPRESSED_SENTINEL" Bundle.listD),
   .fieldLink Bundle.tN 198 Bundle.tN "backtrace" "Ljava/lang/Object;", .lays Bundle.tN Bundle.tN "backtrace" "Ljava/lang/Object;", .lays zn_X Bundle.tN "backtrace" "Ljava/lang/Object;"])))
theorem zn_in1 {w : Cond} (h : w ∈ Bundle.throwableAtoms) : w ∈ zn_W := List.mem_append_left _ h
theorem zn_in2 {w : Cond} (h : w ∈ Bundle.throwableSAtoms) : w ∈ zn_W := List.mem_append_right _ (List.mem_append_left _ h)
theorem zn_in3 {w : Cond} (h : w ∈ Bundle.passSAtoms zn_X zn_Y 13 zn_rx) : w ∈ zn_W := List.mem_append_right _ (List.mem_append_right _ (List.mem_append_left _ h))
theorem zn_in4 {w : Cond} (h : w ∈ Bundle.chainSAtoms zn_Y zn_ups) : w ∈ zn_W := List.mem_append_right _ (List.mem_append_right _ (List.mem_append_right _ (List.mem_append_left _ h)))
theorem zn_in5 {w : Cond} {i : Nat} (h : ([.methodLink RX4 231 (Bundle.initS zn_X), .instantiable zn_X 6, .castable zn_X zn_X, .selects zn_X Bundle.tFill0 Bundle.tFill0, .selects zn_X Bundle.tFill Bundle.tFill,
   .lays zn_X Bundle.tN "cause" "Ljava/lang/Throwable;", .lays zn_X Bundle.tN "stackTrace" Bundle.steD, .lays zn_X Bundle.tN "suppressedExceptions" Bundle.listD, .lays zn_X Bundle.tN "detailMessage" "Ljava/lang/String;",
   .isRef (.static Bundle.tN "UNASSIGNED_STACK" Bundle.steD), .isRef (.static Bundle.tN "SUPPRESSED_SENTINEL" Bundle.listD),
   .fieldLink Bundle.tN 198 Bundle.tN "backtrace" "Ljava/lang/Object;", .lays Bundle.tN Bundle.tN "backtrace" "Ljava/lang/Object;", .lays zn_X Bundle.tN "backtrace" "Ljava/lang/Object;"] : List Cond)[i]? = some w) : w ∈ zn_W := List.mem_append_right _ (List.mem_append_right _ (List.mem_append_right _ (List.mem_append_right _ (List.mem_of_getElem? h))))
theorem zn_at : ∀ w ∈ zn_W.filter vx_no, w ∈ lw_tbl ∧ vx_ot w = true := by decide +kernel
theorem zn_bd : ∀ w ∈ (zn_W.filter vx_no).filter (fun w => !goodWord w), w ∈ [Cond.castable zn_X zn_X, .declares (Bundle.initS "java/lang/RuntimeException"), .declares (Bundle.initS "java/lang/Exception"), .declares (Bundle.initS Bundle.tN)] := by decide +kernel
variable {p : Program} {l : Launch} {e : Env} {R : Room} {s : State} {m : MethodId} {args : Array Value} {below : List Frame} {meth : Method} {c : Code} {T : State} {H : Heap} {locs : List Loc} {cells slots : Nat}
set_option maxHeartbeats 2000000 in
/-- from the constructor's call on, to the throw's end -/
theorem zn_ctor (X : Stand p l e R s m args below meth c T locs cells slots) (hexec : p.tables.exec = Jvm.exec) (htr : e.platform.stackTraces = false)
    (hown : s.vm.findClass RX4 = some m.cls) (h : ∀ a ∈ zn_W, a.before args s = true)
    (hlocs : ∀ x ∈ locs, ∀ cell, s.heap[x.base]? = some cell → cell.vm.isStatics = false)
    {a : Addr} {cX : ClassId} {kX : Class} (hfoundX : s.vm.findClass zn_X = some cX) (hkX : s.vm.classes[cX]? = some kX) (hcell : T.heap[a]? = some (freshCell cX kX)) (hnew : s.heap.size ≤ a)
    {msg : Value} (hmsg : msg.isRef = true)
    {g : JFrame} (hg : g.method = m) (hsize : g.locals.size = c.maxLocals) (hlocked : g.locked = none) (hentered : g.entered = []) {rest : List Value} (hstack : g.stack = msg :: .ref a :: .ref a :: rest)
    (hd6 : decode c.code g.pc = .ok (.invokespecial 231, 3)) (hd9 : decode c.code (g.pc + 3) = .ok (.athrow, 1)) (hout : ∀ x ∈ c.exceptionTable.toList, covers x (g.pc + 3) = false)
    (hRf : 5 < R.frames) (hRl : 2 * g.monitorRoom + ((Value.ref a :: rest).map fun v => v.category).sum + 81 ≤ R.locals) (hlocks : meth.locks = false) :
    ∃ U : State, Steps p.tables e below (T.setTop g) U ∧ U.status = .running ∧ Ended U below (.threw a) ∧ s.WarmedH U.vm ∧ s.sameButNew ({ U with vm := s.vm } : State) locs cells slots ∧
      ∃ ce, U.heap[a]? = some ce ∧ ce.cls = cX ∧ ce.vm = .none := by
  have howns : e.platform.frameOwnsMonitors = true := by rw [X.admits.platform]
  have hfin : e.platform.finalization = false := by rw [X.admits.platform]
  have hpl : e.platform.magicAccessors = ({} : Platform).magicAccessors := by rw [X.admits.platform]
  obtain ⟨K, Z0, L, -, Y⟩ := ThrowableC.of_atoms (args := args) howns hfin hpl (fun x hx => h x (zn_in1 hx))
  obtain ⟨Z, M, LZ, LM, hnZ⟩ := Init0T.ofS_atoms (args := args) hpl L Y (fun x hx => h x (zn_in2 hx))
  obtain ⟨P, LP, hPm, hPs⟩ := PassC.ofS_atoms (args := args) (s := s) hpl (X := zn_X) (Y := zn_Y) (by decide +kernel) (by decide) zn_0 zn_1 zn_2 zn_5 (fun x hx => h x (zn_in3 hx))
  obtain ⟨P1, Ps, hlen, L1, hL, hP1m, hlink1, hlink⟩ := Bundle.chainS (args := args) hpl hnZ zn_ups zn_Y (by decide +kernel) (by decide +kernel) (fun x hx => h x (zn_in4 hx))
  have hfound : s.vm.findClass zn_X = some P.m.cls := findClass_of_methodNamed hPm
  cases Option.some.inj (hfoundX.symm.trans hfound)
  obtain ⟨c1, kX', hc1, hk, hord, -, -, hn6⟩ := Cond.instantiable_spec (h (.instantiable zn_X 6) (zn_in5 (i := 1) rfl))
  cases Option.some.inj (hc1.symm.trans hfound)
  cases Option.some.inj (hkX.symm.trans hk)
  have hsel0 : selectMethod e.platform s.vm P.m.cls K.fill0 = .method K.fill0 := by
    obtain ⟨c2, r2, m2, q1, q2, q3, q4, -⟩ := Cond.selects_spec (h (.selects zn_X Bundle.tFill0 Bundle.tFill0) (zn_in5 (i := 3) rfl))
    cases Option.some.inj (q1.symm.trans hfound)
    cases Option.some.inj (q2.symm.trans (State.methodFound?_of_named Y.fill0 (by decide)))
    cases Option.some.inj (q3.symm.trans Y.fill0)
    rw [Launch.admits_selectMethod X.admits]; exact q4
  have hselF : selectMethod e.platform s.vm P.m.cls K.fill = .method K.fill := by
    obtain ⟨c2, r2, m2, q1, q2, q3, q4, -⟩ := Cond.selects_spec (h (.selects zn_X Bundle.tFill Bundle.tFill) (zn_in5 (i := 4) rfl))
    cases Option.some.inj (q1.symm.trans hfound)
    cases Option.some.inj (q2.symm.trans (State.methodFound?_of_named Y.fill (by decide)))
    cases Option.some.inj (q3.symm.trans Y.fill)
    rw [Launch.admits_selectMethod X.admits]; exact q4
  obtain ⟨cs0, hcs0, hst0⟩ := Y.statics
  obtain ⟨u0, hu0⟩ := Cond.staticRefV Y.unassigned L.unassignedStatic L.statics hcs0 hst0 (h (.isRef (.static Bundle.tN "UNASSIGNED_STACK" Bundle.steD)) (zn_in5 (i := 9) rfl))
  obtain ⟨sen, hsen⟩ := Cond.staticRefV Y.sentinel L.sentinelStatic L.statics hcs0 hst0 (h (.isRef (.static Bundle.tN "SUPPRESSED_SENTINEL" Bundle.listD)) (zn_in5 (i := 10) rfl))
  obtain ⟨ci, iB, fB, b1, b2, b3, b4, -, b5, b6, b7⟩ := Cond.ownField (t := .object "java/lang/Object") Y.found L.cls (by decide +kernel) (h (.fieldLink Bundle.tN 198 Bundle.tN "backtrace" "Ljava/lang/Object;") (zn_in5 (i := 11) rfl)) (h (.lays Bundle.tN Bundle.tN "backtrace" "Ljava/lang/Object;") (zn_in5 (i := 12) rfl)) e.platform hpl
  obtain ⟨cs, hcs, hcv, -, hkeep⟩ := X.same.2.2.2.2.2 K.aS cs0 hcs0
  have hcs' : T.heap[K.aS]? = some cs := hcs
  have hout' : ∀ i, (⟨K.aS, i⟩ : Loc) ∉ locs := fun i hmem => by
    have := hlocs _ hmem cs0 hcs0
    rw [hst0] at this; cases this
  have hknown : cs.vm ≠ .unknown := by
    rw [hcv]; intro hu
    rw [show cs0.vm = .unknown from hu] at hst0
    cases hst0
  have hne : K.aS ≠ a := Nat.ne_of_lt (Nat.lt_of_lt_of_le (Array.getElem?_eq_some_iff.mp hcs0).1 hnew)
  obtain ⟨iM, hffM⟩ := Y.msg
  obtain ⟨tC, dC, hdC, nC⟩ := Cond.laysAt hfound hk Y.cause (h (.lays zn_X Bundle.tN "cause" "Ljava/lang/Throwable;") (zn_in5 (i := 5) rfl))
  obtain ⟨tS, dS, hdS, nS⟩ := Cond.laysAt hfound hk Y.stack (h (.lays zn_X Bundle.tN "stackTrace" Bundle.steD) (zn_in5 (i := 6) rfl))
  obtain ⟨tP, dP, hdP, nP⟩ := Cond.laysAt hfound hk Y.supp (h (.lays zn_X Bundle.tN "suppressedExceptions" Bundle.listD) (zn_in5 (i := 7) rfl))
  obtain ⟨tM, dM, hdM, nM⟩ := Cond.laysAt hfound hk hffM (h (.lays zn_X Bundle.tN "detailMessage" "Ljava/lang/String;") (zn_in5 (i := 8) rfl))
  obtain ⟨tB, dB, hdB, nB⟩ := Cond.laysAt hfound hk b7 (h (.lays zn_X Bundle.tN "backtrace" "Ljava/lang/Object;") (zn_in5 (i := 13) rfl))
  have bC := Cond.laysApart hdB hdC nB nC (by rw [b5, Y.causeName]; decide)
  have bS := Cond.laysApart hdB hdS nB nS (by rw [b5, Y.stackName]; decide)
  have bP := Cond.laysApart hdB hdP nB nP (by rw [b5, Y.suppName]; decide)
  have hskip : SkipFacts K e.platform s (fun u => u) u0 ((preparedCellV K.toThrowableT (freshCell P.m.cls kX) a u0 sen).withEntry T.cur) :=
    ⟨{ ci198 := ci, i198 := iB, fBack := fB }, ⟨b1, b2, b3, b4⟩, by
      have := fresh_default (c := P.m.cls) tB
      rw [b6] at this
      simpa [preparedCellV, Cell.setSlot, Cell.withEntry, Array.getElem?_setIfInBounds, bC, bS, bP, bC.symm, bS.symm, bP.symm, defaultValue] using this, fun _ _ => rfl⟩
  obtain ⟨tm, mC, cC, kC, vm₁, hnC, -, -, -, -, -, -, -, hW₁, st1⟩ := Steps.initColdS (tb := p.tables) (e := e) (below := below) (s := s) (U := T) X.here hexec X.warmed hpl hown (t := Bundle.initS zn_X) rfl rfl (by decide)
    (h (.methodLink RX4 231 (Bundle.initS zn_X)) (zn_in5 (i := 0) rfl)) (h (.instanceMethod (Bundle.initS zn_X)) (zn_in3 (by simp [Bundle.passSAtoms]))) (bytes := zn_rx) (maxL := 2) (h (.code (Bundle.initS zn_X) zn_rx 2 none) (zn_in3 (by simp [Bundle.passSAtoms])))
    (f := g) hg (a := a) (msg := msg) (rest := .ref a :: rest) hstack hd6
  cases Option.some.inj (hnC.symm.trans hPm)
  have X₁ := X.noted hW₁
  have hl3 : Ps.length = 1 := hlen
  have hlinkP : P.sup = P1.m := Option.some.inj (hPs.symm.trans hP1m)
  obtain ⟨vm₂, X₂, st2⟩ := X₁.ctorMessageOffV hexec (g := { g with stack := .ref a :: rest }) hg hsize K L Z LZ M LM (P :: P1 :: Ps)
    (fun Q hQ => by
      rcases List.mem_cons.mp hQ with rfl | hQ
      · exact LP
      · rcases List.mem_cons.mp hQ with rfl | hQ
        · exact L1
        · exact hL Q hQ) ⟨hlinkP, hlink1, hlink⟩ (u0 := u0) (sen := sen) (self := a) hmsg (cell := freshCell P.m.cls kX) (cellS := cs)
    hcell (fun _ => by simp) (by simp) rfl rfl hsel0 hselF hcs' hne hknown (by rw [hkeep _ (hout' _)]; exact hu0) (by rw [hkeep _ (hout' _)]; exact hsen)
    (Takes.of_laid hk hord tC (by rw [Y.causeType]; rfl)) (Takes.of_laid hk hord tS (by rw [Y.stackType]; exact fits_refV_array _ u0)) (Takes.of_laid hk hord tP (by rw [Y.suppType]; exact fits_refV_object _ sen))
    (Takes.of_laid hk hord tM (by rw [Y.msgType]; exact fits_refV_object _ ⟨msg, hmsg⟩)) Y.objLocals hskip htr [] hd6
    (by simp only [List.length_cons, hl3]; omega) (by simp only [List.length_cons, hl3]; exact hRl)
  obtain ⟨hwalk, hrun, hended, hWU, hsame⟩ := X₂.athrowLeaves hexec (g := { g with stack := .ref a :: rest, pc := g.pc + 3 }) hg hlocked hentered hout (a := a) (rest := rest) rfl hd9
  have hlt : a < ((T.setVm vm₁).setVm vm₂).heap.size := (Array.getElem?_eq_some_iff.mp hcell).1
  have hU := heapAt_setCell_self (s := (T.setVm vm₁).setVm vm₂) (plainBareV K.toThrowableT (freshCell P.m.cls kX) a u0 sen msg) hlt
  refine ⟨_, st1 _ (fun acts => ?_), hrun, hended, hWU, hsame.weaken (fun y hy hlt' => ?_) (Nat.le_refl _) (Nat.le_refl _), _, hU, rfl, rfl⟩
  · rw [doInvoke_state]
    exact st2 _ hwalk
  · rcases List.mem_append.mp hy with h1 | h1
    · exact h1
    · exfalso
      have hb : y.base = a := by
        simp only [List.mem_cons, List.not_mem_nil, or_false] at h1
        rcases h1 with rfl | rfl | rfl | rfl | rfl <;> rfl
      rw [hb] at hlt'
      exact Nat.not_lt.mpr hnew hlt'
variable {ls : Array Slot} {rest : List Value} {Qc : Array Value → State → Outcome → State → Prop} {XC : String → State → State → Prop} {free : Nat → Prop}
set_option maxHeartbeats 2000000 in
/-- new; dup; ldc; invokespecial; athrow -/
theorem zn_throwS {cc : ByteArray} {pc : Nat} (hexec : p.tables.exec = Jvm.exec) (hb : c.code = cc) (hl : l.stackTraces = false) {text : String} {is mc ms sa : Nat} {A : Nat → Prop}
    (hown : s.vm.findClass RX4 = some m.cls)
    (hk : (Cond.classLink RX4 227 zn_X).before args s = true) (hini : (Cond.initialized zn_X).before args s = true) (hstr : vk_R RX4 is text sa s) (hat : ∀ w ∈ zn_W.filter vx_no, w.before args s = true)
    (hgood : ∀ w ∈ Cond.classLink RX4 227 zn_X :: Cond.initialized zn_X :: zn_W.filter vx_no, vx_ot w = true)
    (hU : vx_Zq Bundle.tN "UNASSIGNED_STACK" Bundle.steD A s s.heap) (hN : vx_Zq Bundle.tN "SUPPRESSED_SENTINEL" Bundle.listD A s s.heap) (hS : va_S A s.heap H locs) (hsize : ls.size = c.maxLocals)
    (d0 : decode cc pc = .ok (.new 227, 3)) (d3 : decode cc (pc + 3) = .ok (.dup, 1)) (d4 : decode cc (pc + 4) = .ok (.ldc is, 2)) (d6 : decode cc (pc + 6) = .ok (.invokespecial 231, 3)) (d9 : decode cc (pc + 9) = .ok (.athrow, 1))
    (hout : ∀ x ∈ c.exceptionTable.toList, covers x (pc + 9) = false)
    (hRf : 5 < R.frames) (hRl : (rest.map fun v => v.category).sum + 82 ≤ R.locals) (hRc : cells + 1 ≤ R.cells) (hRs : slots + 6 ≤ R.slots) (hlocks : meth.locks = false)
    (hx : ∀ t : State, s.vm.Alike t.vm → H.size ≤ t.heap.size → (∀ q : Nat, q < H.size → t.heap[q]? = H[q]?) → XC zn_X s t)
    (hf : ∀ z ∈ locs, free z.base) (hc : cells + 1 ≤ mc) (hs : slots + 6 ≤ ms) :
    W p l e R s m args below meth c H locs cells slots (vx_MQ below Qc XC args s mc ms free) (F0 m pc ls rest) := by
  intro T hT X
  have htr : e.platform.stackTraces = false := (show e.platform.stackTraces = l.stackTraces by rw [X.admits.platform]).trans hl
  have Y := vx_rebase X (R' := { frames := R.frames, locals := R.locals, cells := 1, slots := 6 }) (Nat.le_refl _) (Nat.le_refl _) hRc hRs
  obtain ⟨s', hA⟩ : ∃ z, z = (T.setVm s.vm).setFrames (.invoking m args :: below) := ⟨_, rfl⟩
  rw [← hA] at Y
  have hvm : s'.vm = s.vm := by rw [hA]; rfl
  have hhp : s'.heap = H := by rw [hA]; exact hT
  have hW0 : s.WarmedH s'.vm := by rw [hvm]; exact State.WarmedH.refl s
  have hat' : ∀ w ∈ zn_W.filter vx_no, w.before args s' = true := fun w hw => vx_ot_at hW0 hvm.symm (hgood w (List.mem_cons_of_mem _ (List.mem_cons_of_mem _ hw))) (hat w hw)
  have hk' : (Cond.classLink RX4 227 zn_X).before args s' = true := vx_ot_at hW0 hvm.symm (hgood _ List.mem_cons_self) hk
  have hini' : (Cond.initialized zn_X).before args s' = true := vx_ot_at hW0 hvm.symm (hgood _ (List.mem_cons_of_mem _ List.mem_cons_self)) hini
  have hU' : vx_Zq Bundle.tN "UNASSIGNED_STACK" Bundle.steD A s' s'.heap := by rw [hhp]; exact vx_Zq.moved hW0.alike (hU.kept hS.2.1)
  have hN' : vx_Zq Bundle.tN "SUPPRESSED_SENTINEL" Bundle.listD A s' s'.heap := by rw [hhp]; exact vx_Zq.moved hW0.alike (hN.kept hS.2.1)
  have h : ∀ w ∈ zn_W, w.before args s' = true := vx_own hat' (vx_isRefq hU'.1) (vx_isRefq hN'.1) hU'.2.word hN'.2.word
  have hown' : s'.vm.findClass RX4 = some m.cls := by rw [hvm]; exact hown
  have hins : (Cond.instantiable zn_X 6).before args s' = true := h _ (zn_in5 (i := 1) rfl)
  obtain ⟨vm₁, cX, kX, hfX, hkX, -, -, X₁, st1⟩ := Y.newCold hexec (own := RX4) (C := zn_X) (index := 227) (n := 6) hown' hk' hins hini'
    (g := F0 m pc ls rest) rfl (by rw [hb]; exact d0) (Nat.le_refl _) (Nat.le_refl _)
  generalize hT1 : (T.setVm vm₁).pushCell { cls := cX, slots := kX.instanceTypes.map defaultValue, vm := .none } = T1 at X₁ st1
  have hcat : (Value.ref T.heap.size).category = 1 := rfl
  have hcellA : T1.heap[T.heap.size]? = some (freshCell cX kX) := by rw [← hT1]; exact State.heap_pushCell_size _ _
  have d3' : decode c.code (pc + 3) = .ok (.dup, 1) := by rw [hb]; exact d3
  have d4' : decode c.code (pc + 4) = .ok (.ldc is, 2) := by rw [hb]; exact d4
  have hstr' : vk_R RX4 is text sa s' := vk_R.warm hW0 hstr
  obtain ⟨U, hsteps, hrun, hend, hW, hsame, ce, hce, hcc, hcv⟩ := zn_ctor X₁ hexec htr hown' h (fun x hx => nomatch hx) hfX hkX hcellA (by rw [hhp, hT]; exact Nat.le_refl _) (msg := .ref sa) rfl
    (g := { method := m, pc := pc + 6, locals := ls, stack := .ref sa :: .ref T.heap.size :: .ref T.heap.size :: rest, locked := none }) rfl hsize rfl rfl (rest := rest) rfl
    (by rw [hb]; exact d6) (by rw [hb]; exact d9) hout hRf (by simp only [List.map_cons, List.sum_cons, hcat]; show 2 * 0 + (1 + _) + 81 ≤ _; omega) hlocks
  obtain ⟨f1, f2⟩ := vx_frame hsame
  rw [hhp] at f1 f2
  have hWs : s.WarmedH U.vm := State.WarmedH.trans hW0 hW
  have hcl : s.vm.findClass zn_X = some ce.cls := by
    rw [hcc, ← hvm]
    exact hfX
  have hall : s.sameButNew ({ U with vm := s.vm } : State) locs mc ms := by
    subst hA
    obtain ⟨e1, e2⟩ := hsame
    rw [State.setFrames_setFrames] at e1
    have h2 : (T.setVm s.vm).sameButNew ({ U with vm := s.vm } : State) [] (0 + 1) (0 + 6) := ⟨e1, e2⟩
    have h3 := X.same.trans h2
    rw [List.append_nil] at h3
    exact h3.mono hc hs
  refine ⟨U, ?_, .threw T.heap.size, hrun, hend, Or.inr ⟨T.heap.size, rfl, zn_X, ce, locs, hx U hWs.alike f1 (fun q hq => f2 q hq (fun z hz => nomatch hz)), hce, hcv, hcl, hWs, hall, hf⟩⟩
  refine st1 _ ?_
  show Steps p.tables e below (T1.setTop { method := m, pc := pc + 3, locals := ls, stack := .ref T.heap.size :: rest, locked := none }) _
  jvm_step X₁.here [X₁.here.top, hexec, d3', Value.category]
  exact X₁.ldcString hexec (own := RX4) (text := text) (index := is) (a := sa) hown' hstr'.1 hstr'.2
    (g := { method := m, pc := pc + 4, locals := ls, stack := .ref T.heap.size :: .ref T.heap.size :: rest, locked := none }) rfl d4' _ hsteps
end ZZNS
section ZZNT
variable {M : zz_M} {sc : Option (Nat × (Nat → Int32))} {d rc rz : Nat} {Q : zz_Q} {pc : Nat} {lv : List (Nat × Value)} {st : List Value} {σ : zz_St}
set_option maxHeartbeats 1000000 in
theorem zz_throwN {text : String} {is : Nat} (hown : M.2.2.2.2.1 = RX4) (hnt : M.2.2.2.2.2 = []) (htx : (is, text) ∈ zz_txt)
    (d0 : decode M.2.1 pc = .ok (.new 227, 3)) (d3 : decode M.2.1 (pc + 3) = .ok (.dup, 1)) (d4 : decode M.2.1 (pc + 4) = .ok (.ldc is, 2)) (d6 : decode M.2.1 (pc + 6) = .ok (.invokespecial 231, 3)) (d9 : decode M.2.1 (pc + 9) = .ok (.athrow, 1))
    (hd : 6 ≤ d) (h1 : 1 ≤ rc) (h2 : 6 ≤ rz) (hcat : (st.map fun v => v.category).sum ≤ 8) (hQ : Q (.inr zn_X) σ) : zz_E M sc d rc rz Q pc lv st σ := by
  intro p l e R s m args below meth c ad G cA A mc ms S H locs cells slots ls hc hz hl hS hP
  have hts := S.2.2.2.2.2.2.1
  have hZ := S.2.2.2.2.2.2.2.2.2.2.2.2.1
  have hRf : d ≤ R.frames := S.2.2.2.2.2.2.2.2.2.2.2.2.2.2.1
  have hRl : 40 * d + 20 ≤ R.locals := S.2.2.2.2.2.2.2.2.2.2.2.2.2.2.2.1
  have hRc : mc ≤ R.cells := S.2.2.2.2.2.2.2.2.2.2.2.2.2.2.2.2.1
  have hRs : ms ≤ R.slots := S.2.2.2.2.2.2.2.2.2.2.2.2.2.2.2.2.2.1
  obtain ⟨a, hstr⟩ := hZ.2.2.1 (is, text) htx
  have hg : ∀ w ∈ zz_g, vx_ot w = true := fun w hw => by
    unfold vx_ot
    rw [zz_g_good w hw, Bool.or_true]
  refine zn_throwS (A := A) (sa := a) (text := text) S.1 S.2.1 S.2.2.2.2.2.2.2.2.2.2.2.2.2.1 (by rw [← hown]; exact S.2.2.2.2.2.1) (hts _ zw_l_X4_227) (hts _ zw_n_java_util_NoSuchElementException) hstr (vx_hat (B := [Cond.castable zn_X zn_X, .declares (Bundle.initS "java/lang/RuntimeException"), .declares (Bundle.initS "java/lang/Exception"), .declares (Bundle.initS Bundle.tN)]) (fun w hw => hts w (List.mem_filter.mpr ⟨(zn_at w (List.mem_filter.mp hw).1).1, (List.mem_filter.mp hw).2⟩)) zn_bd (vx_c (va_Nw.use rfl (hZ.2.2.2.2.1 _ (by simp [zz_exc]))) (vx_c (va_Nw.use rfl (hZ.2.2.2.2.2 _ (by simp [zz_dec]))) (vx_c (va_Nw.use rfl (hZ.2.2.2.2.2 _ (by simp [zz_dec]))) (vx_c (va_Nw.use rfl (hZ.2.2.2.2.2 _ (by simp [zz_dec]))) vx_n))))) ?_ hZ.1 hZ.2.1 hS (hl.1.trans S.2.2.1.symm) d0 d3 d4 d6 d9 ?_ (by omega) (by rw [zz_cats]; omega) (by omega) (by omega) S.2.2.2.2.1 ?_ (fun z hz => hS.2.2 z hz) (by omega) (by omega)
  · intro w hw
    rcases List.mem_cons.mp hw with rfl | hw
    · exact hg _ zw_l_X4_227
    · rcases List.mem_cons.mp hw with rfl | hw
      · exact hg _ zw_n_java_util_NoSuchElementException
      · exact (zn_at w hw).2
  · rw [S.2.2.2.2.2.2.2.1, hnt]
    intro x hx
    cases hx
  · intro t _ hsz hkeep
    refine ⟨⟨σ, hQ, hP.kept (fun k q hk => hkeep q.1 (vx_lt hP hk))⟩, Nat.le_trans hS.1 hsz, fun q hq hnA => ?_⟩
    rw [hkeep q (Nat.lt_of_lt_of_le hq hS.1)]
    exact hS.2.1 q hq hnA
end ZZNT
