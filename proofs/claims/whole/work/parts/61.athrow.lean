/-! ===== NoSuchElementException thrown, under the words that the tables hold (hand-written): her constructor calls her superclass' by place 13; the printed lists have a place that the program has not ===== -/
abbrev cNo : ByteArray := prog_32_method_4_code
theorem cNo_0 : decode cNo 0 = .ok (.aload_n 0, 1) := by decide +kernel
theorem cNo_1 : decode cNo 1 = .ok (.aload_n 1, 1) := by decide +kernel
theorem cNo_2 : decode cNo 2 = .ok (.invokespecial 13, 3) := by decide +kernel
theorem cNo_5 : decode cNo 5 = .ok (.return_, 1) := by decide +kernel
abbrev gRe : String := "java/lang/RuntimeException"
/-- the words of the throw -/
def gThW : List Cond := Bundle.passSAtoms gNo gRe 13 cNo ++ (Bundle.ownAtoms RX11 193 gNo gNoN).filter (fun w => decide (w ≠ .methodLink gNo 7 (Bundle.initS gRe)) && decide (w ≠ .code (Bundle.initS gNo) Bundle.six 2 none))
theorem gTh_1 : ∀ w ∈ Bundle.throwableAtoms, w ∈ gThW := by decide +kernel
theorem gTh_2 : ∀ w ∈ Bundle.throwableSAtoms, w ∈ gThW := by decide +kernel
theorem gTh_3 : ∀ w ∈ Bundle.passSAtoms gNo gRe 13 cNo, w ∈ gThW := fun _ h => List.mem_append_left _ h
theorem gTh_4 : ∀ w ∈ Bundle.chainSAtoms gRe ["java/lang/Exception"], w ∈ gThW := by decide +kernel
section GTHX
variable {p : Program} {l : Launch} {e : Env} {R : Room} {s : State} {m₀ : MethodId} {args : Array Value} {below : List Frame} {meth : Method} {c : Code} {W : State} {locs : List Loc} {cells slots : Nat}
set_option maxHeartbeats 2000000 in
theorem gThMade (X : Stand p l e R s m₀ args below meth c W locs cells slots) (hexec : p.tables.exec = Jvm.exec) (htr : e.platform.stackTraces = false) (hown : s.vm.findClass RX11 = some m₀.cls)
    (h : ∀ a ∈ gThW, a.before args s = true) (hlocs : ∀ x ∈ locs, ∀ cell, s.heap[x.base]? = some cell → cell.vm.isStatics = false)
    {a : Addr} {cX : ClassId} {kX : Class} (hfoundX : s.vm.findClass gNo = some cX) (hkX : s.vm.classes[cX]? = some kX) (hcell : W.heap[a]? = some (freshCell cX kX)) (hnew : s.heap.size ≤ a)
    {msg : Value} (hmsg : msg.isRef = true) {g : JFrame} (hg : g.method = m₀) (hsize : g.locals.size = c.maxLocals) (hlocked : g.locked = none) (hentered : g.entered = []) {rest : List Value} (hstack : g.stack = msg :: .ref a :: .ref a :: rest)
    (hd6 : decode c.code g.pc = .ok (.invokespecial 193, 3)) (hd9 : decode c.code (g.pc + 3) = .ok (.athrow, 1)) (hout : ∀ x ∈ c.exceptionTable.toList, covers x (g.pc + 3) = false)
    (hRframes : 5 < R.frames) (hRlocals : 2 * g.monitorRoom + ((Value.ref a :: rest).map fun v => v.category).sum + 81 ≤ R.locals) (hlocks : meth.locks = false) :
    ∃ U : State, Steps p.tables e below (W.setTop g) U ∧ U.status = .running ∧ Ended U below (.threw a) ∧ s.WarmedH U.vm ∧ s.sameButNew ({ U with vm := s.vm } : State) locs cells slots ∧
      ∃ ce, U.heap[a]? = some ce ∧ ce.vm = .none ∧ s.vm.findClass gNo = some ce.cls := by
  have howns : e.platform.frameOwnsMonitors = true := by rw [X.admits.platform]
  have hfin : e.platform.finalization = false := by rw [X.admits.platform]
  have hpl : e.platform.magicAccessors = ({} : Platform).magicAccessors := by rw [X.admits.platform]
  have a' : ∀ x, x ∈ gThW → x.holds args s none s [] = true := fun x hx => h x hx
  obtain ⟨T, Z0, L, -, Y⟩ := ThrowableC.of_atoms (args := args) howns hfin hpl (fun x hx => h x (gTh_1 x hx))
  obtain ⟨Z, M, LZ, LM, hnZ⟩ := Init0T.ofS_atoms (args := args) hpl L Y (fun x hx => h x (gTh_2 x hx))
  obtain ⟨P1, L1, hP1m, hs1⟩ := PassC.ofS_atoms (args := args) (s := s) hpl (X := gNo) (Y := gRe) (by decide +kernel) (by decide) cNo_0 cNo_1 cNo_2 cNo_5 (fun x hx => h x (gTh_3 x hx))
  obtain ⟨P2, Qs, hlen0, L2, hL2, hP2m, hlink2, hpass2⟩ := Bundle.chainS (args := args) hpl hnZ ["java/lang/Exception"] gRe (by decide +kernel) (by decide +kernel) (fun x hx => h x (gTh_4 x hx))
  obtain ⟨Ps, hPs⟩ : ∃ z, z = P2 :: Qs := ⟨_, rfl⟩
  have hlen : Ps.length = 2 := by rw [hPs]; simp [hlen0]
  have hL : ∀ P ∈ Ps, P.LinksS e.platform s := by
    intro P hP
    rw [hPs] at hP
    rcases List.mem_cons.mp hP with rfl | hP
    · exact L2
    · exact hL2 P hP
  have hlink1 : P1.sup = firstOf (Z.m T.toThrowableT) (Ps.map (·.toPassT)) := by rw [hPs]; exact Option.some.inj (hs1.symm.trans hP2m)
  have hlink : PassesOn (Z.m T.toThrowableT) (Ps.map (·.toPassT)) := by rw [hPs]; exact ⟨hlink2, hpass2⟩
  have hfound : s.vm.findClass gNo = some P1.m.cls := findClass_of_methodNamed hP1m
  cases Option.some.inj (hfoundX.symm.trans hfound)
  obtain ⟨c1, kX', hc1, hk, hord, -, -, hn6⟩ := Cond.instantiable_spec (a' (.instantiable gNo 6) (by decide +kernel))
  cases Option.some.inj (hc1.symm.trans hfound)
  cases Option.some.inj (hkX.symm.trans hk)
  have hsel0 : selectMethod e.platform s.vm P1.m.cls T.fill0 = .method T.fill0 := by
    obtain ⟨c2, r2, m2, q1, q2, q3, q4, -⟩ := Cond.selects_spec (a' (.selects gNo Bundle.tFill0 Bundle.tFill0) (by decide +kernel))
    cases Option.some.inj (q1.symm.trans hfound)
    cases Option.some.inj (q2.symm.trans (State.methodFound?_of_named Y.fill0 (by decide)))
    cases Option.some.inj (q3.symm.trans Y.fill0)
    rw [Launch.admits_selectMethod X.admits]; exact q4
  have hselF : selectMethod e.platform s.vm P1.m.cls T.fill = .method T.fill := by
    obtain ⟨c2, r2, m2, q1, q2, q3, q4, -⟩ := Cond.selects_spec (a' (.selects gNo Bundle.tFill Bundle.tFill) (by decide +kernel))
    cases Option.some.inj (q1.symm.trans hfound)
    cases Option.some.inj (q2.symm.trans (State.methodFound?_of_named Y.fill (by decide)))
    cases Option.some.inj (q3.symm.trans Y.fill)
    rw [Launch.admits_selectMethod X.admits]; exact q4
  obtain ⟨cellS0, hcS0, hiss⟩ := Y.statics
  obtain ⟨u0, hu0⟩ := Cond.staticRefV Y.unassigned L.unassignedStatic L.statics hcS0 hiss (a' (.isRef (.static Bundle.tN "UNASSIGNED_STACK" Bundle.steD)) (by decide +kernel))
  obtain ⟨sen, hsen⟩ := Cond.staticRefV Y.sentinel L.sentinelStatic L.statics hcS0 hiss (a' (.isRef (.static Bundle.tN "SUPPRESSED_SENTINEL" Bundle.listD)) (by decide +kernel))
  obtain ⟨ci198, i198, fB, hk198, hg198, ha198, hsB, -, hnB, htB, hffB⟩ := Cond.ownField (t := .object "java/lang/Object") Y.found L.cls (by decide +kernel) (a' (.fieldLink Bundle.tN 198 Bundle.tN "backtrace" "Ljava/lang/Object;") (by decide +kernel)) (a' (.lays Bundle.tN Bundle.tN "backtrace" "Ljava/lang/Object;") (by decide +kernel)) e.platform hpl
  obtain ⟨cellS, hcS', heS, -, hkeep⟩ := X.same.2.2.2.2.2 T.aS cellS0 hcS0
  have hcellS : W.heap[T.aS]? = some cellS := hcS'
  have hout' : ∀ i, (⟨T.aS, i⟩ : Loc) ∉ locs := fun i hmem => by
    have := hlocs _ hmem cellS0 hcS0
    rw [hiss] at this; cases this
  have hknownS : cellS.vm ≠ .unknown := by
    rw [heS]; intro hu
    rw [show cellS0.vm = .unknown from hu] at hiss
    cases hiss
  have hneS : T.aS ≠ a := Nat.ne_of_lt (Nat.lt_of_lt_of_le (Array.getElem?_eq_some_iff.mp hcS0).1 hnew)
  obtain ⟨iM, hffM⟩ := Y.msg
  obtain ⟨tyC, dC, hdC, hdnC⟩ := Cond.laysAt hfound hk Y.cause (a' (.lays gNo Bundle.tN "cause" "Ljava/lang/Throwable;") (by decide +kernel))
  obtain ⟨tyS, dS, hdS, hdnS⟩ := Cond.laysAt hfound hk Y.stack (a' (.lays gNo Bundle.tN "stackTrace" Bundle.steD) (by decide +kernel))
  obtain ⟨tyP, dP, hdP, hdnP⟩ := Cond.laysAt hfound hk Y.supp (a' (.lays gNo Bundle.tN "suppressedExceptions" Bundle.listD) (by decide +kernel))
  obtain ⟨tyM, dM, hdM, hdnM⟩ := Cond.laysAt hfound hk hffM (a' (.lays gNo Bundle.tN "detailMessage" "Ljava/lang/String;") (by decide +kernel))
  obtain ⟨tyB, dB, hdB, hdnB⟩ := Cond.laysAt hfound hk hffB (a' (.lays gNo Bundle.tN "backtrace" "Ljava/lang/Object;") (by decide +kernel))
  have bC := Cond.laysApart hdB hdC hdnB hdnC (by rw [hnB, Y.causeName]; decide)
  have bS := Cond.laysApart hdB hdS hdnB hdnS (by rw [hnB, Y.stackName]; decide)
  have bP := Cond.laysApart hdB hdP hdnB hdnP (by rw [hnB, Y.suppName]; decide)
  have hskip : SkipFacts T e.platform s (fun u => u) u0 ((preparedCellV T.toThrowableT (freshCell P1.m.cls kX) a u0 sen).withEntry W.cur) :=
    ⟨{ ci198 := ci198, i198 := i198, fBack := fB }, ⟨hk198, hg198, ha198, hsB⟩, by
      have := fresh_default (c := P1.m.cls) tyB
      rw [htB] at this
      simpa [preparedCellV, Cell.setSlot, Cell.withEntry, Array.getElem?_setIfInBounds, bC, bS, bP, bC.symm, bS.symm, bP.symm, defaultValue] using this, fun _ _ => rfl⟩
  obtain ⟨tm, methC, cdC, kC, vm₁, hnC, -, -, -, -, -, -, -, hW₁, st1⟩ := Steps.initColdS (tb := p.tables) (e := e) (below := below) (s := s) (U := W) X.here hexec X.warmed hpl hown (t := Bundle.initS gNo) rfl rfl (by decide)
    (a' (.methodLink RX11 193 (Bundle.initS gNo)) (by decide +kernel)) (h (.instanceMethod (Bundle.initS gNo)) (by decide +kernel)) (bytes := cNo) (maxL := 2) (h (.code (Bundle.initS gNo) cNo 2 none) (by decide +kernel))
    (f := g) hg (a := a) (msg := msg) (rest := .ref a :: rest) hstack hd6
  cases Option.some.inj (hnC.symm.trans hP1m)
  have X₁ := X.noted hW₁
  obtain ⟨vm₂, X₂, st2⟩ := X₁.ctorMessageOffV hexec (g := { g with stack := .ref a :: rest }) hg hsize T L Z LZ M LM (P1 :: Ps)
    (fun P hP => by rcases List.mem_cons.mp hP with rfl | hP; exact L1; exact hL P hP) ⟨hlink1, hlink⟩ (u0 := u0) (sen := sen) (self := a) hmsg (cell := freshCell P1.m.cls kX) (cellS := cellS)
    hcell (fun _ => by simp) (by simp) rfl rfl hsel0 hselF hcellS hneS hknownS (by rw [hkeep _ (hout' _)]; exact hu0) (by rw [hkeep _ (hout' _)]; exact hsen)
    (Takes.of_laid hk hord tyC (by rw [Y.causeType]; rfl)) (Takes.of_laid hk hord tyS (by rw [Y.stackType]; exact fits_refV_array _ u0)) (Takes.of_laid hk hord tyP (by rw [Y.suppType]; exact fits_refV_object _ sen))
    (Takes.of_laid hk hord tyM (by rw [Y.msgType]; exact fits_refV_object _ ⟨msg, hmsg⟩)) Y.objLocals hskip htr [] hd6
    (by simp only [List.length_cons, hlen]; omega) (by simp only [List.length_cons, hlen]; exact hRlocals)
  obtain ⟨hwalk, hrun, hended, hWU, hsame⟩ := X₂.athrowLeaves hexec (g := { g with stack := .ref a :: rest, pc := g.pc + 3 }) hg hlocked hentered hout (a := a) (rest := rest) rfl hd9
  have hlt : a < ((W.setVm vm₁).setVm vm₂).heap.size := (Array.getElem?_eq_some_iff.mp hcell).1
  have hU := heapAt_setCell_self (s := (W.setVm vm₁).setVm vm₂) (plainBareV T.toThrowableT (freshCell P1.m.cls kX) a u0 sen msg) hlt
  refine ⟨_, st1 _ (fun acts => ?_), hrun, hended, hWU, hsame.weaken (fun y hy hlt' => ?_) (Nat.le_refl _) (Nat.le_refl _), _, hU, rfl, hfound⟩
  · rw [doInvoke_state]
    exact st2 _ hwalk
  · rcases List.mem_append.mp hy with h1 | h1
    · exact h1
    · exfalso
      have hb : y.base = a := by
        simp only [List.mem_cons, List.not_mem_nil, or_false] at h1
        rcases h1 with rfl | rfl | rfl | rfl | rfl <;> rfl
      rw [hb] at hlt'
      exact Nat.not_lt.mpr hnew hlt'
end GTHX
/-- those of the words that stay good -/
def gThG : List Cond := (gThW.filter vx_no).filter goodWord
theorem gThBad : (gThW.filter vx_no).filter (fun w => !goodWord w) = [.declares (Bundle.initS "java/lang/RuntimeException"), .declares (Bundle.initS "java/lang/RuntimeException"), .declares (Bundle.initS "java/lang/Exception"), .declares (Bundle.initS Bundle.tN), .castable gNo gNo] := by decide +kernel
theorem gThOt : (Cond.classLink RX11 189 gNo :: Cond.initialized gNo :: gThW.filter vx_no).all vx_ot = true := by decide +kernel
section GTHY
variable {p : Program} {l : Launch} {e : Env} {R : Room} {s : State} {m : MethodId} {below : List Frame} {meth : Method} {c : Code} {H : Heap} {locs : List Loc} {cells slots mc ms : Nat} {as : List Value} {ws : List Cond} {y : MethodName} {cc : ByteArray} {maxL : Nat} {ret : Option FieldType} {pc : Nat} {ls : Array Slot} {g : gC} {w : va_W} {Qc : Array Value → State → Outcome → State → Prop} {PX : Prop} {rest : List Value} {args : Array Value} {free : Nat → Prop} {XC : String → State → State → Prop}
theorem gThS (hexec : p.tables.exec = Jvm.exec) (hb : c.code = cc) (hl : l.stackTraces = false) {text : String} {is sa : Nat} {A : Nat → Prop}
    (hown : s.vm.findClass RX11 = some m.cls) (hk : (Cond.classLink RX11 189 gNo).before args s = true) (hini : (Cond.initialized gNo).before args s = true) (hstr : vk_R RX11 is text sa s) (hat : ∀ w ∈ gThW.filter vx_no, w.before args s = true)
    (hU : vx_Zq Bundle.tN "UNASSIGNED_STACK" Bundle.steD A s s.heap) (hN : vx_Zq Bundle.tN "SUPPRESSED_SENTINEL" Bundle.listD A s s.heap) (hS : va_S A s.heap H locs) (hsize : ls.size = c.maxLocals)
    (d0 : decode cc pc = .ok (.new 189, 3)) (d3 : decode cc (pc + 3) = .ok (.dup, 1)) (d4 : decode cc (pc + 4) = .ok (.ldc is, 2)) (d6 : decode cc (pc + 6) = .ok (.invokespecial 193, 3)) (d9 : decode cc (pc + 9) = .ok (.athrow, 1))
    (hout : ∀ x ∈ c.exceptionTable.toList, covers x (pc + 9) = false)
    (hRframes : 5 < R.frames) (hRlocals : (rest.map fun v => v.category).sum + 82 ≤ R.locals) (hRcells : cells + 1 ≤ R.cells) (hRslots : slots + 6 ≤ R.slots) (hlocks : meth.locks = false)
    (hx : ∀ t : State, s.vm.Alike t.vm → H.size ≤ t.heap.size → (∀ q : Nat, q < H.size → t.heap[q]? = H[q]?) → XC gNo s t)
    (hf : ∀ z ∈ locs, free z.base) (hc : cells + 1 ≤ mc) (hs : slots + 6 ≤ ms) :
    W p l e R s m args below meth c H locs cells slots (vx_MQ below Qc XC args s mc ms free) (F0 m pc ls rest) := by
  intro T hT X
  have htr : e.platform.stackTraces = false := (show e.platform.stackTraces = l.stackTraces by rw [X.admits.platform]).trans hl
  have Y := vx_rebase X (R' := { frames := R.frames, locals := R.locals, cells := 1, slots := 6 }) (Nat.le_refl _) (Nat.le_refl _) hRcells hRslots
  obtain ⟨s', hA⟩ : ∃ z, z = (T.setVm s.vm).setFrames (.invoking m args :: below) := ⟨_, rfl⟩
  rw [← hA] at Y
  have hgood : ∀ w ∈ Cond.classLink RX11 189 gNo :: Cond.initialized gNo :: gThW.filter vx_no, vx_ot w = true := List.all_eq_true.mp gThOt
  have hvm : s'.vm = s.vm := by rw [hA]; rfl
  have hhp : s'.heap = H := by rw [hA]; exact hT
  have hW0 : s.WarmedH s'.vm := by rw [hvm]; exact State.WarmedH.refl s
  have hat' : ∀ w ∈ gThW.filter vx_no, w.before args s' = true := fun w hw => vx_ot_at hW0 hvm.symm (hgood w (List.mem_cons_of_mem _ (List.mem_cons_of_mem _ hw))) (hat w hw)
  have hk' : (Cond.classLink RX11 189 gNo).before args s' = true := vx_ot_at hW0 hvm.symm (hgood _ List.mem_cons_self) hk
  have hini' : (Cond.initialized gNo).before args s' = true := vx_ot_at hW0 hvm.symm (hgood _ (List.mem_cons_of_mem _ List.mem_cons_self)) hini
  have hU' : vx_Zq Bundle.tN "UNASSIGNED_STACK" Bundle.steD A s' s'.heap := by rw [hhp]; exact vx_Zq.moved hW0.alike (hU.kept hS.2.1)
  have hN' : vx_Zq Bundle.tN "SUPPRESSED_SENTINEL" Bundle.listD A s' s'.heap := by rw [hhp]; exact vx_Zq.moved hW0.alike (hN.kept hS.2.1)
  have h : ∀ w ∈ gThW, w.before args s' = true := vx_own hat' (vx_isRefq hU'.1) (vx_isRefq hN'.1) hU'.2.word hN'.2.word
  have hown' : s'.vm.findClass RX11 = some m.cls := by rw [hvm]; exact hown
  have hins : (Cond.instantiable gNo 6).before args s' = true := h _ (by decide +kernel)
  obtain ⟨vm₁, cX, kX, hfX, hkX, -, -, X₁, st1⟩ := Y.newCold hexec (own := RX11) (C := gNo) (index := 189) (n := 6) hown' hk' hins hini'
    (g := F0 m pc ls rest) rfl (by rw [hb]; exact d0) (Nat.le_refl _) (Nat.le_refl _)
  generalize hT1 : (T.setVm vm₁).pushCell { cls := cX, slots := kX.instanceTypes.map defaultValue, vm := .none } = T1 at X₁ st1
  have hcat : (Value.ref T.heap.size).category = 1 := rfl
  have hcellA : T1.heap[T.heap.size]? = some (freshCell cX kX) := by rw [← hT1]; exact State.heap_pushCell_size _ _
  have d3' : decode c.code (pc + 3) = .ok (.dup, 1) := by rw [hb]; exact d3
  have d4' : decode c.code (pc + 4) = .ok (.ldc is, 2) := by rw [hb]; exact d4
  have hstr' : vk_R RX11 is text sa s' := vk_R.warm hW0 hstr
  obtain ⟨U, hsteps, hrun, hend, hW, hsame, ce, hce, hOvm, hOcl⟩ := gThMade X₁ hexec htr hown' h (fun x hx => nomatch hx) hfX hkX hcellA (by rw [hhp, hT]; exact Nat.le_refl _) (msg := .ref sa) rfl
    (g := { method := m, pc := pc + 6, locals := ls, stack := .ref sa :: .ref T.heap.size :: .ref T.heap.size :: rest, locked := none }) rfl hsize rfl rfl (rest := rest) rfl
    (by rw [hb]; exact d6) (by rw [hb]; exact d9) hout hRframes (by simp only [List.map_cons, List.sum_cons, hcat]; omega) hlocks
  obtain ⟨f1, f2⟩ := vx_frame hsame
  rw [hhp] at f1 f2
  have hWs : s.WarmedH U.vm := State.WarmedH.trans hW0 hW
  have hcl : s.vm.findClass gNo = some ce.cls := by
    have h9 := hOcl
    rw [hvm] at h9
    exact h9
  have hall : s.sameButNew ({ U with vm := s.vm } : State) locs mc ms := by
    subst hA
    obtain ⟨e1, e2⟩ := hsame
    rw [State.setFrames_setFrames] at e1
    have h2 : (T.setVm s.vm).sameButNew ({ U with vm := s.vm } : State) [] (0 + 1) (0 + 6) := ⟨e1, e2⟩
    have h3 := X.same.trans h2
    rw [List.append_nil] at h3
    exact h3.mono hc hs
  refine ⟨U, ?_, .threw T.heap.size, hrun, hend, Or.inr ⟨T.heap.size, rfl, gNo, ce, locs, hx U hWs.alike f1 (fun q hq => f2 q hq (fun z hz => nomatch hz)), hce, hOvm, hcl, hWs, hall, hf⟩⟩
  refine st1 _ ?_
  show Steps p.tables e below (T1.setTop { method := m, pc := pc + 3, locals := ls, stack := .ref T.heap.size :: rest, locked := none }) _
  jvm_step X₁.here [X₁.here.top, hexec, d3', Value.category]
  exact X₁.ldcString hexec (own := RX11) (text := text) (index := is) (a := sa) hown' hstr'.1 hstr'.2
    (g := { method := m, pc := pc + 4, locals := ls, stack := .ref T.heap.size :: .ref T.heap.size :: rest, locked := none }) rfl d4' _ hsteps
theorem gThrowX (F : gF p s m meth c as.toArray ws y cc maxL ret) (hx0 : ∀ x ∈ c.exceptionTable.toList, False) (hG : gU g s) (hW : gW g w H) (hS : va_S (gA g) s.heap H locs) (hsz : ls.size = maxL) (hlt : l.stackTraces = false) (hy : y.cls = RX11)
    {is i : Nat} {text : String} (hk : (RX11, is, text, i) ∈ gKR) (h1 : Cond.classLink RX11 189 gNo ∈ ws) (h2 : Cond.initialized gNo ∈ ws) (h3 : ∀ w ∈ gThG, w ∈ ws)
    (d0 : decode cc pc = .ok (.new 189, 3)) (d3 : decode cc (pc + 3) = .ok (.dup, 1)) (d4 : decode cc (pc + 4) = .ok (.ldc is, 2)) (d6 : decode cc (pc + 6) = .ok (.invokespecial 193, 3)) (d9 : decode cc (pc + 9) = .ok (.athrow, 1))
    (hRf : 5 < R.frames) (hRl : 82 ≤ R.locals) (hRc : cells + 1 ≤ R.cells) (hRs : slots + 6 ≤ R.slots) (hc : cells + 1 ≤ mc) (hs : slots + 6 ≤ ms) (hp : PX) :
    W p l e R s m as.toArray below meth c H locs cells slots (vx_MQ below Qc (gXC g PX w) as.toArray s mc ms (gA g)) (F0 m pc ls []) := by
  have hown : s.vm.findClass RX11 = some m.cls := by rw [← hy]; exact F.2.2.2.2.2.1
  refine gThS (A := gA g) (sa := g.2.2.2 i) (text := text) (is := is) F.1 F.2.1 hlt hown (F.2.2.2.2.1 _ h1) (F.2.2.2.2.1 _ h2) (hG.2.2.2.2.2.2.1 _ hk) ?_ hG.2.2.1.2.2.2.2.2.2.2.2.2.2.2.1 hG.2.2.1.2.2.2.2.2.2.2.2.2.2.2.2.1 hS (hsz.trans F.2.2.2.1.symm) d0 d3 d4 d6 d9 (fun x hx => (hx0 x hx).elim) hRf hRl hRc hRs F.2.2.2.2.2.2.1 ?_ hS.2.2 hc hs
  · refine vx_hat (B := [.declares (Bundle.initS "java/lang/RuntimeException"), .declares (Bundle.initS "java/lang/RuntimeException"), .declares (Bundle.initS "java/lang/Exception"), .declares (Bundle.initS Bundle.tN), .castable gNo gNo]) (fun w hw => F.2.2.2.2.1 _ (h3 w hw)) (fun w hw => by rw [gThBad] at hw; exact hw) ?_
    exact vx_c (va_Nw.use rfl (hG.2.2.2.1 _ (List.mem_of_getElem? (i := 2) rfl))) (vx_c (va_Nw.use rfl (hG.2.2.2.1 _ (List.mem_of_getElem? (i := 2) rfl))) (vx_c (va_Nw.use rfl (hG.2.2.2.1 _ (List.mem_of_getElem? (i := 3) rfl))) (vx_c (va_Nw.use rfl (hG.2.2.2.1 _ (List.mem_of_getElem? (i := 4) rfl))) (vx_c (va_Nw.use rfl (hG.2.2.2.2.2.2.2 (gNo, gNo) (List.mem_of_getElem? (i := 0) rfl))) vx_n))))
  · intro t ht h5 h6
    exact ⟨w, ⟨hp, rfl⟩, ⟨rfl, hW.grow h6⟩, gF_S hS h5 h6⟩
end GTHY
def wsY11_out : List Cond := .code yX11_out cX11_out 2 (some .int) :: ([.classLink RX11 189 "java/util/NoSuchElementException", .initialized "java/util/NoSuchElementException", .fieldLink RX11 63 "StepperHearts" "latest" "LStepperHearts$Machine;"] ++ wsX110 ++ wsX60 ++ gThG)
def wsY11_pile : List Cond := .code yX11_pile cX11_pile 2 (some .int) :: ([.classLink RX11 189 "java/util/NoSuchElementException", .initialized "java/util/NoSuchElementException", .fieldLink RX11 63 "StepperHearts" "latest" "LStepperHearts$Machine;"] ++ wsX110 ++ wsX60 ++ gThG)
def wsY_out : List Cond := .codeWith yL_out cL_out 4 (some .int) [(0, 9, 12, 13)] :: ([.classLink RL 13 "java/util/NoSuchElementException", .methodLink RL 7 yX11_out, .instanceMethod yX11_out, .selects RX11 yX11_out yX11_out, .initialized RX11, .code yX11_out cX11_out 2 (some .int), .classLink RX11 189 "java/util/NoSuchElementException", .initialized "java/util/NoSuchElementException", .fieldLink RX11 63 "StepperHearts" "latest" "LStepperHearts$Machine;"] ++ wsX110 ++ wsX60 ++ gThG)
def wsY_pile : List Cond := .codeWith yL_pile cL_pile 4 (some .int) [(0, 9, 12, 13)] :: ([.classLink RL 13 "java/util/NoSuchElementException", .methodLink RL 15 yX11_pile, .instanceMethod yX11_pile, .selects RX11 yX11_pile yX11_pile, .initialized RX11, .code yX11_pile cX11_pile 2 (some .int), .classLink RX11 189 "java/util/NoSuchElementException", .initialized "java/util/NoSuchElementException", .fieldLink RX11 63 "StepperHearts" "latest" "LStepperHearts$Machine;"] ++ wsX110 ++ wsX60 ++ gThG)
def wsY_law : List Cond := wsL_law0 ++ gThG
abbrev rm_Y11_out : Room := ({ frames := 6, cells := 1, slots := 6, locals := 82 } : Room)
theorem mY11_out_1 : Cond.classLink RX11 189 "java/util/NoSuchElementException" ∈ wsY11_out := List.mem_of_getElem? (i := 1) rfl
theorem mY11_out_2 : Cond.initialized "java/util/NoSuchElementException" ∈ wsY11_out := List.mem_of_getElem? (i := 2) rfl
theorem mY11_out_3 : Cond.fieldLink RX11 63 "StepperHearts" "latest" "LStepperHearts$Machine;" ∈ wsY11_out := List.mem_of_getElem? (i := 3) rfl
theorem nY11_out_X11 : ∀ w ∈ wsX110, w ∈ wsY11_out := fun _ h => List.mem_cons_of_mem _ (List.mem_append_left _ (List.mem_append_left _ (List.mem_append_right _ (h))))
theorem fY11_out_180 : (yX11_out.cls, 180, "StepperHearts$Machine", "outCount", "I", "StepperHearts") ∈ gNF := List.mem_of_getElem? (i := 14) rfl
theorem nY11_out_X6 : ∀ w ∈ wsX60, w ∈ wsY11_out := fun _ h => List.mem_cons_of_mem _ (List.mem_append_left _ (List.mem_append_right _ (h)))
theorem fY11_out_196 : (yX11_out.cls, 196, "StepperHearts$Machine", "outs", "[I", "StepperHearts") ∈ gNF := List.mem_of_getElem? (i := 3) rfl
set_option maxRecDepth 100000 in
set_option maxHeartbeats 4000000 in
theorem c_Y11_out (g : gC) (l : Launch) {o : Nat} {ta : Nat} {rd : Nat} {jn : Nat} {sw : Nat} {rt : Nat} {jh : Nat} {kh : Nat} {th : Nat} {la : Nat} {a0 : Nat} {a1 : Nat} {a2 : Nat} {a3 : Nat} {a4 : Nat} {a5 : Nat} {lb : Nat} {cu : Nat} {sq : Nat} {tl : Nat} {lf : Nat} {lt : Nat} {inp : Int32} {bp : Int32} {hr : Bool} {pn : Nat} {en : Int32} {st : Nat} {sp : Nat} {ht : Nat} {hi : Nat} {oc : Nat} {pl : Nat} {fk : Int32} {tc : Nat} {ou : Nat → Int32} {x : Int32} {R : va_W} (hlt : l.stackTraces = false) (hb : oc < 2 ^ 31) : cE g l yX11_out wsY11_out rm_Y11_out 1 6 [.ref o, .int x] ((o, .inr (8, [.ref ta, .ref rd, .ref jn, .ref sw, .ref rt, .ref jh, .ref kh, .ref th, .ref la, .ref lb, .ref cu, .ref sq, .int (nI tl), .int (nI lf), .int inp, .int bp, .int (nI lt)])) :: (la, .inr (3, [.ref a0, .ref a1, .ref a2, .ref a3, .ref a4, .ref a5, .int (bI hr), .int (nI pn), .int en, .int (nI st), .int (nI sp), .int (nI ht), .int (nI hi), .int (nI oc), .int (nI pl), .int fk, .int (nI tc)])) :: (a2, .inl (g.2.1 0, 60, .inl ou)) :: R) (fun r u => (ixS x (min oc 60) ou (nI 0)) = r ∧ (o, .inr (8, [.ref ta, .ref rd, .ref jn, .ref sw, .ref rt, .ref jh, .ref kh, .ref th, .ref la, .ref lb, .ref cu, .ref sq, .int (nI tl), .int (nI lf), .int inp, .int bp, .int (nI lt)])) :: (la, .inr (3, [.ref a0, .ref a1, .ref a2, .ref a3, .ref a4, .ref a5, .int (bI hr), .int (nI pn), .int en, .int (nI st), .int (nI sp), .int (nI ht), .int (nI hi), .int (nI oc), .int (nI pl), .int fk, .int (nI tc)])) :: (a2, .inl (g.2.1 0, 60, .inl ou)) :: R = u ∧ ∃ j, j < min oc 60 ∧ x = nI j) (x < 0 ∨ nI (min oc 60) ≤ x) := by
  refine gEnterX (cc := cX11_out) (maxL := 2) (ret := (some (.int))) (by decide +kernel) rfl (Nat.le_of_ble_eq_true rfl) ?_
  intro p e s m below meth c F hx0 hG hW ls hl
  have hS : va_S (gA g) s.heap s.heap [] := va_S.rf
  have hl : lv_has ls 2 [(0, .ref o), (1, .int x)] := hl
  have hW : gW g ((o, .inr (8, [.ref ta, .ref rd, .ref jn, .ref sw, .ref rt, .ref jh, .ref kh, .ref th, .ref la, .ref lb, .ref cu, .ref sq, .int (nI tl), .int (nI lf), .int inp, .int bp, .int (nI lt)])) :: (la, .inr (3, [.ref a0, .ref a1, .ref a2, .ref a3, .ref a4, .ref a5, .int (bI hr), .int (nI pn), .int en, .int (nI st), .int (nI sp), .int (nI ht), .int (nI hi), .int (nI oc), .int (nI pl), .int fk, .int (nI tc)])) :: (a2, .inl (g.2.1 0, 60, .inl ou)) :: R) s.heap := hW
  rcases ixc x (n := (min oc 60)) (by omega) with hx | ⟨j, hj, rfl⟩
  · have hl : lv_has ls 2 [(0, .ref o), (1, .int x)] := hl
    have hW : gW g ((o, .inr (8, [.ref ta, .ref rd, .ref jn, .ref sw, .ref rt, .ref jh, .ref kh, .ref th, .ref la, .ref lb, .ref cu, .ref sq, .int (nI tl), .int (nI lf), .int inp, .int bp, .int (nI lt)])) :: (la, .inr (3, [.ref a0, .ref a1, .ref a2, .ref a3, .ref a4, .ref a5, .int (bI hr), .int (nI pn), .int en, .int (nI st), .int (nI sp), .int (nI ht), .int (nI hi), .int (nI oc), .int (nI pl), .int fk, .int (nI tc)])) :: (a2, .inl (g.2.1 0, 60, .inl ou)) :: R) s.heap := hW
    refine lv_iload_n F.1 F.2.1 dX11_out_0 rfl (lv_at hl 1 rfl) ?_
    refine lv_if_lt (tgt := 21) F.1 F.2.1 dX11_out_1 (by decide) (fun c_1 => ?_) (fun c_1 => ?_)
    · refine gThrowX (is := 191) (i := 60) (PX := x < 0 ∨ nI (min oc 60) ≤ x) F hx0 hG hW hS hl.1 hlt rfl (List.mem_of_getElem? (i := 0) rfl) mY11_out_1 mY11_out_2 (fun w hw => List.mem_cons_of_mem _ (List.mem_append_right _ hw)) dX11_out_21 dX11_out_24 dX11_out_25 dX11_out_27 dX11_out_30 (Nat.le_of_ble_eq_true rfl) (Nat.le_of_ble_eq_true rfl) (Nat.le_of_ble_eq_true rfl) (Nat.le_of_ble_eq_true rfl) (Nat.le_refl _) (Nat.le_refl _) hx
    · refine lv_iload_n F.1 F.2.1 dX11_out_4 rfl (lv_at hl 1 rfl) ?_
      refine lv_aload_n F.1 F.2.1 dX11_out_5 rfl (lv_at hl 0 rfl) ?_
      refine gGet F hG hW nY11_out_X11 0 rfl rfl 8 (by decide) mY11_out_3 rfl dX11_out_6 ?_
      refine gGetN F hG hW nY11_out_X6 1 rfl rfl 13 (by decide) fY11_out_180 rfl dX11_out_9 ?_
      refine lv_icmp_ge (tgt := 21) F.1 F.2.1 dX11_out_12 (by decide) (fun c_12 => ?_) (fun c_12 => ?_)
      · refine gThrowX (is := 191) (i := 60) (PX := x < 0 ∨ nI (min oc 60) ≤ x) F hx0 hG hW hS hl.1 hlt rfl (List.mem_of_getElem? (i := 0) rfl) mY11_out_1 mY11_out_2 (fun w hw => List.mem_cons_of_mem _ (List.mem_append_right _ hw)) dX11_out_21 dX11_out_24 dX11_out_25 dX11_out_27 dX11_out_30 (Nat.le_of_ble_eq_true rfl) (Nat.le_of_ble_eq_true rfl) (Nat.le_of_ble_eq_true rfl) (Nat.le_of_ble_eq_true rfl) (Nat.le_refl _) (Nat.le_refl _) hx
      · refine lv_iload_n F.1 F.2.1 dX11_out_15 rfl (lv_at hl 1 rfl) ?_
        refine lv_bipush (v := nI 60) F.1 F.2.1 dX11_out_16 (by decide) ?_
        refine lv_icmp_lt (tgt := 31) F.1 F.2.1 dX11_out_18 (by decide) (fun q => (ixo4 hx c_1 c_12 q hb (by decide)).elim) (fun c_18 => ?_)
        refine gThrowX (is := 191) (i := 60) (PX := x < 0 ∨ nI (min oc 60) ≤ x) F hx0 hG hW hS hl.1 hlt rfl (List.mem_of_getElem? (i := 0) rfl) mY11_out_1 mY11_out_2 (fun w hw => List.mem_cons_of_mem _ (List.mem_append_right _ hw)) dX11_out_21 dX11_out_24 dX11_out_25 dX11_out_27 dX11_out_30 (Nat.le_of_ble_eq_true rfl) (Nat.le_of_ble_eq_true rfl) (Nat.le_of_ble_eq_true rfl) (Nat.le_of_ble_eq_true rfl) (Nat.le_refl _) (Nat.le_refl _) hx
  · have hl : lv_has ls 2 [(0, .ref o), (1, .int (nI j))] := hl
    have hW : gW g ((o, .inr (8, [.ref ta, .ref rd, .ref jn, .ref sw, .ref rt, .ref jh, .ref kh, .ref th, .ref la, .ref lb, .ref cu, .ref sq, .int (nI tl), .int (nI lf), .int inp, .int bp, .int (nI lt)])) :: (la, .inr (3, [.ref a0, .ref a1, .ref a2, .ref a3, .ref a4, .ref a5, .int (bI hr), .int (nI pn), .int en, .int (nI st), .int (nI sp), .int (nI ht), .int (nI hi), .int (nI oc), .int (nI pl), .int fk, .int (nI tc)])) :: (a2, .inl (g.2.1 0, 60, .inl ou)) :: R) s.heap := hW
    refine lv_iload_n F.1 F.2.1 dX11_out_0 rfl (lv_at hl 1 rfl) ?_
    refine gIfLt (tgt := 21) F (by omega) dX11_out_1 (by decide) (fun c_1 => by exfalso; omega) (fun c_1 => ?_)
    refine lv_iload_n F.1 F.2.1 dX11_out_4 rfl (lv_at hl 1 rfl) ?_
    refine lv_aload_n F.1 F.2.1 dX11_out_5 rfl (lv_at hl 0 rfl) ?_
    refine gGet F hG hW nY11_out_X11 0 rfl rfl 8 (by decide) mY11_out_3 rfl dX11_out_6 ?_
    refine gGetN F hG hW nY11_out_X6 1 rfl rfl 13 (by decide) fY11_out_180 rfl dX11_out_9 ?_
    refine gGe (tgt := 21) F (by omega) (by omega) dX11_out_12 (by decide) (fun c_12 => by exfalso; omega) (fun c_12 => ?_)
    refine lv_iload_n F.1 F.2.1 dX11_out_15 rfl (lv_at hl 1 rfl) ?_
    refine lv_bipush (v := nI 60) F.1 F.2.1 dX11_out_16 (by decide) ?_
    refine gLt (tgt := 31) F (by omega) (by omega) dX11_out_18 (by decide) (fun c_18 => ?_) (fun c_18 => by exfalso; omega)
    refine lv_aload_n F.1 F.2.1 dX11_out_31 rfl (lv_at hl 0 rfl) ?_
    refine gGet F hG hW nY11_out_X11 0 rfl rfl 8 (by decide) mY11_out_3 rfl dX11_out_32 ?_
    refine gGetN F hG hW nY11_out_X6 1 rfl rfl 2 (by decide) fY11_out_196 rfl dX11_out_35 ?_
    refine lv_iload_n F.1 F.2.1 dX11_out_38 rfl (lv_at hl 1 rfl) ?_
    refine gLdI F hG hW 2 rfl (by omega) (by decide) dX11_out_39 ?_
    refine vx_ret ?_
    refine gWiden (k := 1) (n := 6) (Nat.zero_le _) (Nat.zero_le _) ?_
    refine gRi F hW hS dX11_out_40 ?_
    exact ⟨ixS_in hj (by omega), rfl, j, hj, rfl⟩

abbrev rm_Y11_pile : Room := ({ frames := 6, cells := 1, slots := 6, locals := 82 } : Room)
theorem mY11_pile_1 : Cond.classLink RX11 189 "java/util/NoSuchElementException" ∈ wsY11_pile := List.mem_of_getElem? (i := 1) rfl
theorem mY11_pile_2 : Cond.initialized "java/util/NoSuchElementException" ∈ wsY11_pile := List.mem_of_getElem? (i := 2) rfl
theorem mY11_pile_3 : Cond.fieldLink RX11 63 "StepperHearts" "latest" "LStepperHearts$Machine;" ∈ wsY11_pile := List.mem_of_getElem? (i := 3) rfl
theorem nY11_pile_X11 : ∀ w ∈ wsX110, w ∈ wsY11_pile := fun _ h => List.mem_cons_of_mem _ (List.mem_append_left _ (List.mem_append_left _ (List.mem_append_right _ (h))))
theorem fY11_pile_177 : (yX11_pile.cls, 177, "StepperHearts$Machine", "height", "I", "StepperHearts") ∈ gNF := List.mem_of_getElem? (i := 12) rfl
theorem nY11_pile_X6 : ∀ w ∈ wsX60, w ∈ wsY11_pile := fun _ h => List.mem_cons_of_mem _ (List.mem_append_left _ (List.mem_append_right _ (h)))
theorem fY11_pile_201 : (yX11_pile.cls, 201, "StepperHearts$Machine", "numbers", "[I", "StepperHearts") ∈ gNF := List.mem_of_getElem? (i := 2) rfl
set_option maxRecDepth 100000 in
set_option maxHeartbeats 4000000 in
theorem c_Y11_pile (g : gC) (l : Launch) {o : Nat} {ta : Nat} {rd : Nat} {jn : Nat} {sw : Nat} {rt : Nat} {jh : Nat} {kh : Nat} {th : Nat} {la : Nat} {a0 : Nat} {a1 : Nat} {a2 : Nat} {a3 : Nat} {a4 : Nat} {a5 : Nat} {lb : Nat} {cu : Nat} {sq : Nat} {tl : Nat} {lf : Nat} {lt : Nat} {inp : Int32} {bp : Int32} {hr : Bool} {pn : Nat} {en : Int32} {st : Nat} {sp : Nat} {ht : Nat} {hi : Nat} {oc : Nat} {pl : Nat} {fk : Int32} {tc : Nat} {nu : Nat → Int32} {x : Int32} {R : va_W} (hlt : l.stackTraces = false) (hb : ht < 2 ^ 31) : cE g l yX11_pile wsY11_pile rm_Y11_pile 1 6 [.ref o, .int x] ((o, .inr (8, [.ref ta, .ref rd, .ref jn, .ref sw, .ref rt, .ref jh, .ref kh, .ref th, .ref la, .ref lb, .ref cu, .ref sq, .int (nI tl), .int (nI lf), .int inp, .int bp, .int (nI lt)])) :: (la, .inr (3, [.ref a0, .ref a1, .ref a2, .ref a3, .ref a4, .ref a5, .int (bI hr), .int (nI pn), .int en, .int (nI st), .int (nI sp), .int (nI ht), .int (nI hi), .int (nI oc), .int (nI pl), .int fk, .int (nI tc)])) :: (a0, .inl (g.2.1 0, 32, .inl nu)) :: R) (fun r u => (ixS x (min ht 32) nu (nI 0)) = r ∧ (o, .inr (8, [.ref ta, .ref rd, .ref jn, .ref sw, .ref rt, .ref jh, .ref kh, .ref th, .ref la, .ref lb, .ref cu, .ref sq, .int (nI tl), .int (nI lf), .int inp, .int bp, .int (nI lt)])) :: (la, .inr (3, [.ref a0, .ref a1, .ref a2, .ref a3, .ref a4, .ref a5, .int (bI hr), .int (nI pn), .int en, .int (nI st), .int (nI sp), .int (nI ht), .int (nI hi), .int (nI oc), .int (nI pl), .int fk, .int (nI tc)])) :: (a0, .inl (g.2.1 0, 32, .inl nu)) :: R = u ∧ ∃ j, j < min ht 32 ∧ x = nI j) (x < 0 ∨ nI (min ht 32) ≤ x) := by
  refine gEnterX (cc := cX11_pile) (maxL := 2) (ret := (some (.int))) (by decide +kernel) rfl (Nat.le_of_ble_eq_true rfl) ?_
  intro p e s m below meth c F hx0 hG hW ls hl
  have hS : va_S (gA g) s.heap s.heap [] := va_S.rf
  have hl : lv_has ls 2 [(0, .ref o), (1, .int x)] := hl
  have hW : gW g ((o, .inr (8, [.ref ta, .ref rd, .ref jn, .ref sw, .ref rt, .ref jh, .ref kh, .ref th, .ref la, .ref lb, .ref cu, .ref sq, .int (nI tl), .int (nI lf), .int inp, .int bp, .int (nI lt)])) :: (la, .inr (3, [.ref a0, .ref a1, .ref a2, .ref a3, .ref a4, .ref a5, .int (bI hr), .int (nI pn), .int en, .int (nI st), .int (nI sp), .int (nI ht), .int (nI hi), .int (nI oc), .int (nI pl), .int fk, .int (nI tc)])) :: (a0, .inl (g.2.1 0, 32, .inl nu)) :: R) s.heap := hW
  rcases ixc x (n := (min ht 32)) (by omega) with hx | ⟨j, hj, rfl⟩
  · have hl : lv_has ls 2 [(0, .ref o), (1, .int x)] := hl
    have hW : gW g ((o, .inr (8, [.ref ta, .ref rd, .ref jn, .ref sw, .ref rt, .ref jh, .ref kh, .ref th, .ref la, .ref lb, .ref cu, .ref sq, .int (nI tl), .int (nI lf), .int inp, .int bp, .int (nI lt)])) :: (la, .inr (3, [.ref a0, .ref a1, .ref a2, .ref a3, .ref a4, .ref a5, .int (bI hr), .int (nI pn), .int en, .int (nI st), .int (nI sp), .int (nI ht), .int (nI hi), .int (nI oc), .int (nI pl), .int fk, .int (nI tc)])) :: (a0, .inl (g.2.1 0, 32, .inl nu)) :: R) s.heap := hW
    refine lv_iload_n F.1 F.2.1 dX11_pile_0 rfl (lv_at hl 1 rfl) ?_
    refine lv_if_lt (tgt := 21) F.1 F.2.1 dX11_pile_1 (by decide) (fun c_1 => ?_) (fun c_1 => ?_)
    · refine gThrowX (is := 199) (i := 61) (PX := x < 0 ∨ nI (min ht 32) ≤ x) F hx0 hG hW hS hl.1 hlt rfl (List.mem_of_getElem? (i := 1) rfl) mY11_pile_1 mY11_pile_2 (fun w hw => List.mem_cons_of_mem _ (List.mem_append_right _ hw)) dX11_pile_21 dX11_pile_24 dX11_pile_25 dX11_pile_27 dX11_pile_30 (Nat.le_of_ble_eq_true rfl) (Nat.le_of_ble_eq_true rfl) (Nat.le_of_ble_eq_true rfl) (Nat.le_of_ble_eq_true rfl) (Nat.le_refl _) (Nat.le_refl _) hx
    · refine lv_iload_n F.1 F.2.1 dX11_pile_4 rfl (lv_at hl 1 rfl) ?_
      refine lv_aload_n F.1 F.2.1 dX11_pile_5 rfl (lv_at hl 0 rfl) ?_
      refine gGet F hG hW nY11_pile_X11 0 rfl rfl 8 (by decide) mY11_pile_3 rfl dX11_pile_6 ?_
      refine gGetN F hG hW nY11_pile_X6 1 rfl rfl 11 (by decide) fY11_pile_177 rfl dX11_pile_9 ?_
      refine lv_icmp_ge (tgt := 21) F.1 F.2.1 dX11_pile_12 (by decide) (fun c_12 => ?_) (fun c_12 => ?_)
      · refine gThrowX (is := 199) (i := 61) (PX := x < 0 ∨ nI (min ht 32) ≤ x) F hx0 hG hW hS hl.1 hlt rfl (List.mem_of_getElem? (i := 1) rfl) mY11_pile_1 mY11_pile_2 (fun w hw => List.mem_cons_of_mem _ (List.mem_append_right _ hw)) dX11_pile_21 dX11_pile_24 dX11_pile_25 dX11_pile_27 dX11_pile_30 (Nat.le_of_ble_eq_true rfl) (Nat.le_of_ble_eq_true rfl) (Nat.le_of_ble_eq_true rfl) (Nat.le_of_ble_eq_true rfl) (Nat.le_refl _) (Nat.le_refl _) hx
      · refine lv_iload_n F.1 F.2.1 dX11_pile_15 rfl (lv_at hl 1 rfl) ?_
        refine lv_bipush (v := nI 32) F.1 F.2.1 dX11_pile_16 (by decide) ?_
        refine lv_icmp_lt (tgt := 31) F.1 F.2.1 dX11_pile_18 (by decide) (fun q => (ixo4 hx c_1 c_12 q hb (by decide)).elim) (fun c_18 => ?_)
        refine gThrowX (is := 199) (i := 61) (PX := x < 0 ∨ nI (min ht 32) ≤ x) F hx0 hG hW hS hl.1 hlt rfl (List.mem_of_getElem? (i := 1) rfl) mY11_pile_1 mY11_pile_2 (fun w hw => List.mem_cons_of_mem _ (List.mem_append_right _ hw)) dX11_pile_21 dX11_pile_24 dX11_pile_25 dX11_pile_27 dX11_pile_30 (Nat.le_of_ble_eq_true rfl) (Nat.le_of_ble_eq_true rfl) (Nat.le_of_ble_eq_true rfl) (Nat.le_of_ble_eq_true rfl) (Nat.le_refl _) (Nat.le_refl _) hx
  · have hl : lv_has ls 2 [(0, .ref o), (1, .int (nI j))] := hl
    have hW : gW g ((o, .inr (8, [.ref ta, .ref rd, .ref jn, .ref sw, .ref rt, .ref jh, .ref kh, .ref th, .ref la, .ref lb, .ref cu, .ref sq, .int (nI tl), .int (nI lf), .int inp, .int bp, .int (nI lt)])) :: (la, .inr (3, [.ref a0, .ref a1, .ref a2, .ref a3, .ref a4, .ref a5, .int (bI hr), .int (nI pn), .int en, .int (nI st), .int (nI sp), .int (nI ht), .int (nI hi), .int (nI oc), .int (nI pl), .int fk, .int (nI tc)])) :: (a0, .inl (g.2.1 0, 32, .inl nu)) :: R) s.heap := hW
    refine lv_iload_n F.1 F.2.1 dX11_pile_0 rfl (lv_at hl 1 rfl) ?_
    refine gIfLt (tgt := 21) F (by omega) dX11_pile_1 (by decide) (fun c_1 => by exfalso; omega) (fun c_1 => ?_)
    refine lv_iload_n F.1 F.2.1 dX11_pile_4 rfl (lv_at hl 1 rfl) ?_
    refine lv_aload_n F.1 F.2.1 dX11_pile_5 rfl (lv_at hl 0 rfl) ?_
    refine gGet F hG hW nY11_pile_X11 0 rfl rfl 8 (by decide) mY11_pile_3 rfl dX11_pile_6 ?_
    refine gGetN F hG hW nY11_pile_X6 1 rfl rfl 11 (by decide) fY11_pile_177 rfl dX11_pile_9 ?_
    refine gGe (tgt := 21) F (by omega) (by omega) dX11_pile_12 (by decide) (fun c_12 => by exfalso; omega) (fun c_12 => ?_)
    refine lv_iload_n F.1 F.2.1 dX11_pile_15 rfl (lv_at hl 1 rfl) ?_
    refine lv_bipush (v := nI 32) F.1 F.2.1 dX11_pile_16 (by decide) ?_
    refine gLt (tgt := 31) F (by omega) (by omega) dX11_pile_18 (by decide) (fun c_18 => ?_) (fun c_18 => by exfalso; omega)
    refine lv_aload_n F.1 F.2.1 dX11_pile_31 rfl (lv_at hl 0 rfl) ?_
    refine gGet F hG hW nY11_pile_X11 0 rfl rfl 8 (by decide) mY11_pile_3 rfl dX11_pile_32 ?_
    refine gGetN F hG hW nY11_pile_X6 1 rfl rfl 0 (by decide) fY11_pile_201 rfl dX11_pile_35 ?_
    refine lv_iload_n F.1 F.2.1 dX11_pile_38 rfl (lv_at hl 1 rfl) ?_
    refine gLdI F hG hW 2 rfl (by omega) (by decide) dX11_pile_39 ?_
    refine vx_ret ?_
    refine gWiden (k := 1) (n := 6) (Nat.zero_le _) (Nat.zero_le _) ?_
    refine gRi F hW hS dX11_pile_40 ?_
    exact ⟨ixS_in hj (by omega), rfl, j, hj, rfl⟩

