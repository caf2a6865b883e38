abbrev nse : String := "java/util/NoSuchElementException"
/-- the class of what is thrown is known, and fits itself; the constructors above it are declared -/
abbrev dclL : List MethodName := [Bundle.initS "java/lang/RuntimeException", Bundle.initS "java/lang/Exception", Bundle.initS Bundle.tN]
def Cst (U : State) : Prop := (∃ k, U.vm.findClass nse = some k ∧ U.vm.assignable k k = true) ∧ ∀ x ∈ dclL, va_Nw (.declares x) U
theorem dcl_moved {x : MethodName} {u U : State} (hvm : u.vm.Alike U.vm) (hZ : va_Nw (.declares x) u) : va_Nw (.declares x) U := va_tabs rfl (rfl : (u.setVm U.vm).vm = U.vm) (by rw [Cond.declares_setVm hvm]; exact hZ)
theorem Cst.moved {u U : State} (hvm : u.vm.Alike U.vm) (h : Cst u) : Cst U := by
  obtain ⟨⟨k, h1, h2⟩, h3⟩ := h
  exact ⟨⟨k, by rw [hvm.findClass]; exact h1, by rw [hvm.assignable]; exact h2⟩, fun x hx => dcl_moved hvm (h3 x hx)⟩
theorem Cst.of {args : Array Value} {s : State} (h : (Cond.castable nse nse).before args s = true) (hd : ∀ x ∈ dclL, (Cond.declares x).before args s = true) : Cst s := by
  obtain ⟨c, t, h1, h2, h3⟩ := Cond.castable_spec h
  cases Option.some.inj (h1.symm.trans h2)
  exact ⟨⟨c, h1, h3⟩, fun x hx => va_Nw.of rfl (hd x hx)⟩
theorem Cst.word {args : Array Value} {s : State} (h : Cst s) : (Cond.castable nse nse).before args s = true := by
  obtain ⟨⟨k, h1, h2⟩, -⟩ := h
  simp [Cond.before, Cond.holds, Cond.value, h1, h2]
abbrev cstW : List Cond := .castable nse nse :: dclL.map .declares
theorem Cst.words {args : Array Value} {s : State} (h : Cst s) : ∀ w ∈ cstW, w.before args s = true := by
  intro w hw
  rcases List.mem_cons.mp hw with e | e
  · rw [e]; exact h.word
  · obtain ⟨x, hx, rfl⟩ := List.mem_map.mp e
    exact va_Nw.use rfl (h.2 x hx)
abbrev nseC : ByteArray := ⟨#[0x2a, 0x2b, 0xb7, 0x00, 0x0d, 0xb1]⟩
def nseAtoms (own : String) (ic : Nat) : List Cond :=
  Bundle.throwableAtoms ++ Bundle.throwableSAtoms ++ Bundle.passSAtoms nse "java/lang/RuntimeException" 13 nseC ++ Bundle.chainSAtoms "java/lang/RuntimeException" ["java/lang/Exception"] ++
  [.methodLink own ic (Bundle.initS nse), .instantiable nse 6, .castable nse nse, .selects nse Bundle.tFill0 Bundle.tFill0, .selects nse Bundle.tFill Bundle.tFill,
   .lays nse Bundle.tN "cause" "Ljava/lang/Throwable;", .lays nse Bundle.tN "stackTrace" Bundle.steD, .lays nse Bundle.tN "suppressedExceptions" Bundle.listD, .lays nse Bundle.tN "detailMessage" "Ljava/lang/String;",
   .isRef (.static Bundle.tN "UNASSIGNED_STACK" Bundle.steD), .isRef (.static Bundle.tN "SUPPRESSED_SENTINEL" Bundle.listD),
   .fieldLink Bundle.tN 198 Bundle.tN "backtrace" "Ljava/lang/Object;", .lays Bundle.tN Bundle.tN "backtrace" "Ljava/lang/Object;", .lays nse Bundle.tN "backtrace" "Ljava/lang/Object;"]
section NSETHROW
variable {p : Program} {l : Launch} {e : Env} {R : Room} {s : State} {m₀ : MethodId} {args : Array Value} {below : List Frame} {meth : Method} {c : Code} {W : State} {locs : List Loc} {cells slots : Nat}
set_option maxHeartbeats 1000000 in
theorem nse_ctorThrow (X : Stand p l e R s m₀ args below meth c W locs cells slots) (hexec : p.tables.exec = Jvm.exec) (htr : e.platform.stackTraces = false) {own : String} {ic : Nat}
    (hown : s.vm.findClass own = some m₀.cls) 
    (h : ∀ a ∈ nseAtoms own ic, a.before args s = true)
    (hlocs : ∀ x ∈ locs, ∀ cell, s.heap[x.base]? = some cell → cell.vm.isStatics = false)
    {a : Addr} {cX : ClassId} {kX : Class} (hfoundX : s.vm.findClass nse = some cX) (hkX : s.vm.classes[cX]? = some kX) (hcell : W.heap[a]? = some (freshCell cX kX)) (hnew : s.heap.size ≤ a)
    {msg : Value} (hmsg : msg.isRef = true)
    {g : JFrame} (hg : g.method = m₀) (hsize : g.locals.size = c.maxLocals) (hlocked : g.locked = none) (hentered : g.entered = []) {rest : List Value} (hstack : g.stack = msg :: .ref a :: .ref a :: rest)
    (hd6 : decode c.code g.pc = .ok (.invokespecial ic, 3)) (hd9 : decode c.code (g.pc + 3) = .ok (.athrow, 1)) (hout : ∀ x ∈ c.exceptionTable.toList, covers x (g.pc + 3) = false)
    (hRframes : 5 < R.frames) (hRlocals : 2 * g.monitorRoom + ((Value.ref a :: rest).map fun v => v.category).sum + 81 ≤ R.locals) (hlocks : meth.locks = false := by first | assumption | exact BodyLoose.notSynchronized (by assumption) | exact Body.notSynchronized (by assumption)) :
    ∃ U : State, Steps p.tables e below (W.setTop g) U ∧ U.status = .running ∧ Ended U below (.threw a) ∧ s.WarmedH U.vm ∧ s.sameButNew ({ U with vm := s.vm } : State) locs cells slots ∧
      ∃ ce, U.heap[a]? = some ce ∧ ce.vm = .none ∧ s.vm.findClass nse = some ce.cls := by
  have howns : e.platform.frameOwnsMonitors = true := by rw [X.admits.platform]
  have hfin : e.platform.finalization = false := by rw [X.admits.platform]
  have hpl : e.platform.magicAccessors = ({} : Platform).magicAccessors := by rw [X.admits.platform]
  have a' : ∀ x, x ∈ nseAtoms own ic → x.holds args s none s [] = true := fun x hx => h x hx
  obtain ⟨T, Z0, L, -, Y⟩ := ThrowableC.of_atoms (args := args) howns hfin hpl (fun x hx => h x (by simp [nseAtoms, hx]))
  obtain ⟨Z, M, LZ, LM, hnZ⟩ := Init0T.ofS_atoms (args := args) hpl L Y (fun x hx => h x (by simp [nseAtoms, hx]))
  obtain ⟨P1, L1, hP1m, hs1⟩ := PassC.ofS_atoms (args := args) (s := s) hpl (X := nse) (Y := "java/lang/RuntimeException") (index := 13) (bytes := nseC) (by decide +kernel) (by decide +kernel) (by decide +kernel) (by decide +kernel) (by decide +kernel) (by decide +kernel) (fun x hx => h x (by simp only [nseAtoms, List.mem_append]; exact Or.inl (Or.inl (Or.inr hx))))
  obtain ⟨P2, Ps0, hlen0, L2, hL0, hP2m, hlink2, hlink0⟩ := Bundle.chainS (args := args) hpl hnZ ["java/lang/Exception"] "java/lang/RuntimeException" (by decide +kernel) (by decide +kernel) (fun x hx => h x (by simp only [nseAtoms, List.mem_append]; exact Or.inl (Or.inr hx)))
  obtain ⟨Ps, hPs⟩ : ∃ z, z = P2 :: Ps0 := ⟨_, rfl⟩
  have hlen : Ps.length = 2 := by rw [hPs]; simp [hlen0]
  have hL : ∀ P, P ∈ Ps → P.LinksS e.platform s := fun P hP => by
    rw [hPs] at hP
    rcases List.mem_cons.mp hP with rfl | hP
    · exact L2
    · exact hL0 P hP
  have hlink1 : P1.sup = firstOf (Z.m T.toThrowableT) (Ps.map (·.toPassT)) := by rw [hPs]; exact Option.some.inj (hs1.symm.trans hP2m)
  have hlink : PassesOn (Z.m T.toThrowableT) (Ps.map (·.toPassT)) := by rw [hPs]; exact ⟨hlink2, hlink0⟩
  have hfound : s.vm.findClass nse = some P1.m.cls := findClass_of_methodNamed hP1m
  cases Option.some.inj (hfoundX.symm.trans hfound)
  obtain ⟨c1, kX', hc1, hk, hord, -, -, hn6⟩ := Cond.instantiable_spec (a' (.instantiable nse 6) (by simp [nseAtoms]))
  cases Option.some.inj (hc1.symm.trans hfound)
  cases Option.some.inj (hkX.symm.trans hk)
  have hsel0 : selectMethod e.platform s.vm P1.m.cls T.fill0 = .method T.fill0 := by
    obtain ⟨c2, r2, m2, q1, q2, q3, q4, -⟩ := Cond.selects_spec (a' (.selects nse Bundle.tFill0 Bundle.tFill0) (by simp [nseAtoms]))
    cases Option.some.inj (q1.symm.trans hfound)
    cases Option.some.inj (q2.symm.trans (State.methodFound?_of_named Y.fill0 (by decide)))
    cases Option.some.inj (q3.symm.trans Y.fill0)
    rw [Launch.admits_selectMethod X.admits]; exact q4
  have hselF : selectMethod e.platform s.vm P1.m.cls T.fill = .method T.fill := by
    obtain ⟨c2, r2, m2, q1, q2, q3, q4, -⟩ := Cond.selects_spec (a' (.selects nse Bundle.tFill Bundle.tFill) (by simp [nseAtoms]))
    cases Option.some.inj (q1.symm.trans hfound)
    cases Option.some.inj (q2.symm.trans (State.methodFound?_of_named Y.fill (by decide)))
    cases Option.some.inj (q3.symm.trans Y.fill)
    rw [Launch.admits_selectMethod X.admits]; exact q4
  obtain ⟨cellS0, hcS0, hiss⟩ := Y.statics
  obtain ⟨u0, hu0⟩ := Cond.staticRefV Y.unassigned L.unassignedStatic L.statics hcS0 hiss (a' (.isRef (.static Bundle.tN "UNASSIGNED_STACK" Bundle.steD)) (by simp [nseAtoms]))
  obtain ⟨sen, hsen⟩ := Cond.staticRefV Y.sentinel L.sentinelStatic L.statics hcS0 hiss (a' (.isRef (.static Bundle.tN "SUPPRESSED_SENTINEL" Bundle.listD)) (by simp [nseAtoms]))
  obtain ⟨ci198, i198, fB, hk198, hg198, ha198, hsB, -, hnB, htB, hffB⟩ := Cond.ownField (t := .object "java/lang/Object") Y.found L.cls (by decide +kernel) (a' (.fieldLink Bundle.tN 198 Bundle.tN "backtrace" "Ljava/lang/Object;") (by simp [nseAtoms])) (a' (.lays Bundle.tN Bundle.tN "backtrace" "Ljava/lang/Object;") (by simp [nseAtoms])) e.platform hpl
  obtain ⟨cellS, hcS', heS, -, hkeep⟩ := X.same.2.2.2.2.2 T.aS cellS0 hcS0
  have hcellS : W.heap[T.aS]? = some cellS := hcS'
  have hout' : ∀ i, (⟨T.aS, i⟩ : Loc) ∉ locs := fun i hmem => by
    have := hlocs _ hmem cellS0 hcS0
    rw [hiss] at this; cases this
  have hknownS : cellS.vm ≠ .unknown := by
    rw [heS]; intro hu
    rw [show cellS0.vm = .unknown from hu] at hiss
    cases hiss
  have hneS : T.aS ≠ a := Nat.ne_of_lt (Nat.lt_of_lt_of_le (Array.getElem?_eq_some_iff.mp hcS0).1 hnew)
  obtain ⟨iM, hffM⟩ := Y.msg
  obtain ⟨tyC, dC, hdC, hdnC⟩ := Cond.laysAt hfound hk Y.cause (a' (.lays nse Bundle.tN "cause" "Ljava/lang/Throwable;") (by simp [nseAtoms]))
  obtain ⟨tyS, dS, hdS, hdnS⟩ := Cond.laysAt hfound hk Y.stack (a' (.lays nse Bundle.tN "stackTrace" Bundle.steD) (by simp [nseAtoms]))
  obtain ⟨tyP, dP, hdP, hdnP⟩ := Cond.laysAt hfound hk Y.supp (a' (.lays nse Bundle.tN "suppressedExceptions" Bundle.listD) (by simp [nseAtoms]))
  obtain ⟨tyM, dM, hdM, hdnM⟩ := Cond.laysAt hfound hk hffM (a' (.lays nse Bundle.tN "detailMessage" "Ljava/lang/String;") (by simp [nseAtoms]))
  obtain ⟨tyB, dB, hdB, hdnB⟩ := Cond.laysAt hfound hk hffB (a' (.lays nse Bundle.tN "backtrace" "Ljava/lang/Object;") (by simp [nseAtoms]))
  have bC := Cond.laysApart hdB hdC hdnB hdnC (by rw [hnB, Y.causeName]; decide)
  have bS := Cond.laysApart hdB hdS hdnB hdnS (by rw [hnB, Y.stackName]; decide)
  have bP := Cond.laysApart hdB hdP hdnB hdnP (by rw [hnB, Y.suppName]; decide)
  have hskip : SkipFacts T e.platform s (fun u => u) u0 ((preparedCellV T.toThrowableT (freshCell P1.m.cls kX) a u0 sen).withEntry W.cur) :=
    ⟨{ ci198 := ci198, i198 := i198, fBack := fB }, ⟨hk198, hg198, ha198, hsB⟩, by
      have := fresh_default (c := P1.m.cls) tyB
      rw [htB] at this
      simpa [preparedCellV, Cell.setSlot, Cell.withEntry, Array.getElem?_setIfInBounds, bC, bS, bP, bC.symm, bS.symm, bP.symm, defaultValue] using this, fun _ _ => rfl⟩
  obtain ⟨tm, methC, cdC, kC, vm₁, hnC, -, -, -, -, -, -, -, hW₁, st1⟩ := Steps.initColdS (tb := p.tables) (e := e) (below := below) (s := s) (U := W) X.here hexec X.warmed hpl hown (t := Bundle.initS nse) rfl rfl (by decide +kernel)
    (a' (.methodLink own ic (Bundle.initS nse)) (by simp [nseAtoms])) (h (.instanceMethod (Bundle.initS nse)) (by simp [nseAtoms, Bundle.passSAtoms])) (bytes := nseC) (maxL := 2) (h (.code (Bundle.initS nse) nseC 2 none) (by simp [nseAtoms, Bundle.passSAtoms]))
    (f := g) hg (a := a) (msg := msg) (rest := .ref a :: rest) hstack hd6
  cases Option.some.inj (hnC.symm.trans hP1m)
  have X₁ := X.noted hW₁
  obtain ⟨vm₂, X₂, st2⟩ := X₁.ctorMessageOffV hexec (g := { g with stack := .ref a :: rest }) hg hsize T L Z LZ M LM (P1 :: Ps)
    (fun P hP => by rcases List.mem_cons.mp hP with rfl | hP; exact L1; exact hL P hP) ⟨hlink1, hlink⟩ (u0 := u0) (sen := sen) (self := a) hmsg (cell := freshCell P1.m.cls kX) (cellS := cellS)
    hcell (fun _ => by simp) (by simp) rfl rfl hsel0 hselF hcellS hneS hknownS (by rw [hkeep _ (hout' _)]; exact hu0) (by rw [hkeep _ (hout' _)]; exact hsen)
    (Takes.of_laid hk hord tyC (by rw [Y.causeType]; rfl)) (Takes.of_laid hk hord tyS (by rw [Y.stackType]; exact fits_refV_array _ u0)) (Takes.of_laid hk hord tyP (by rw [Y.suppType]; exact fits_refV_object _ sen))
    (Takes.of_laid hk hord tyM (by rw [Y.msgType]; exact fits_refV_object _ ⟨msg, hmsg⟩)) Y.objLocals hskip htr [] hd6
    (by simp only [List.length_cons, hlen]; omega) (by simp only [List.length_cons, hlen]; exact hRlocals)
  obtain ⟨hwalk, hrun, hended, hWU, hsame⟩ := X₂.athrowLeaves hexec (g := { g with stack := .ref a :: rest, pc := g.pc + 3 }) hg hlocked hentered hout (a := a) (rest := rest) rfl hd9
  have hlt : a < ((W.setVm vm₁).setVm vm₂).heap.size := (Array.getElem?_eq_some_iff.mp hcell).1
  have hU := heapAt_setCell_self (s := (W.setVm vm₁).setVm vm₂) (plainBareV T.toThrowableT (freshCell P1.m.cls kX) a u0 sen msg) hlt
  refine ⟨_, st1 _ (fun acts => ?_), hrun, hended, hWU, hsame.weaken (fun y hy hlt' => ?_) (Nat.le_refl _) (Nat.le_refl _), _, hU, rfl, hfound⟩
  · rw [doInvoke_state]
    exact st2 _ hwalk
  · rcases List.mem_append.mp hy with h1 | h1
    · exact h1
    · exfalso
      have hb : y.base = a := by
        simp only [List.mem_cons, List.not_mem_nil, or_false] at h1
        rcases h1 with rfl | rfl | rfl | rfl | rfl <;> rfl
      rw [hb] at hlt'
      exact Nat.not_lt.mpr hnew hlt'
end NSETHROW
section NSEEND
variable {p : Program} {l : Launch} {e : Env} {R : Room} {s : State} {m : MethodId} {args : Array Value} {below : List Frame} {meth : Method} {c : Code} {H : Heap} {locs : List Loc} {cells slots : Nat} {Q : State → Prop}
variable {mc ms : Nat} {free : Addr → Prop} {ls : Array Slot} {rest : List Value}
variable {Qc : Array Value → State → Outcome → State → Prop} {XC : String → State → State → Prop}
theorem nse_throwW {cc : ByteArray} {pc : Nat} (hexec : p.tables.exec = Jvm.exec) (hb : c.code = cc) (hl : l.stackTraces = false) {own text : String} {ik is ic mc ms sa : Nat} {A : Nat → Prop}
    (hown : s.vm.findClass own = some m.cls) 
    (hk : (Cond.classLink own ik nse).before args s = true) (hini : (Cond.initialized nse).before args s = true) (hstr : vk_R own is text sa s) (hat : ∀ w ∈ (nseAtoms own ic).filter vx_no, w.before args s = true)
    (hgood : ∀ w ∈ Cond.classLink own ik nse :: Cond.initialized nse :: (nseAtoms own ic).filter vx_no, vx_ot w = true)
    (hU : vx_Zq Bundle.tN "UNASSIGNED_STACK" Bundle.steD A s s.heap) (hN : vx_Zq Bundle.tN "SUPPRESSED_SENTINEL" Bundle.listD A s s.heap) (hS : va_S A s.heap H locs) (hsize : ls.size = c.maxLocals)
    (d0 : decode cc pc = .ok (.new ik, 3)) (d3 : decode cc (pc + 3) = .ok (.dup, 1)) (d4 : decode cc (pc + 4) = .ok (.ldc_w is, 3)) (d7 : decode cc (pc + 7) = .ok (.invokespecial ic, 3)) (d10 : decode cc (pc + 10) = .ok (.athrow, 1))
    (hout : ∀ x ∈ c.exceptionTable.toList, covers x (pc + 10) = false)
    (hRframes : 5 < R.frames) (hRlocals : (rest.map fun v => v.category).sum + 82 ≤ R.locals) (hRcells : cells + 1 ≤ R.cells) (hRslots : slots + 6 ≤ R.slots) (hlocks : meth.locks = false)
    (hx : ∀ t : State, s.vm.Alike t.vm → H.size ≤ t.heap.size → (∀ q : Nat, q < H.size → t.heap[q]? = H[q]?) → XC nse s t)
    (hf : ∀ z ∈ locs, free z.base) (hc : cells + 1 ≤ mc) (hs : slots + 6 ≤ ms) :
    W p l e R s m args below meth c H locs cells slots (vx_MQ below Qc XC args s mc ms free) (F0 m pc ls rest) := by
  intro T hT X
  have htr : e.platform.stackTraces = false := (show e.platform.stackTraces = l.stackTraces by rw [X.admits.platform]).trans hl
  have Y := vx_rebase X (R' := { frames := R.frames, locals := R.locals, cells := 1, slots := 6 }) (Nat.le_refl _) (Nat.le_refl _) hRcells hRslots
  obtain ⟨s', hA⟩ : ∃ z, z = (T.setVm s.vm).setFrames (.invoking m args :: below) := ⟨_, rfl⟩
  rw [← hA] at Y
  have hvm : s'.vm = s.vm := by rw [hA]; rfl
  have hhp : s'.heap = H := by rw [hA]; exact hT
  have hW0 : s.WarmedH s'.vm := by rw [hvm]; exact State.WarmedH.refl s
  have hat' : ∀ w ∈ (nseAtoms own ic).filter vx_no, w.before args s' = true := fun w hw => vx_ot_at hW0 hvm.symm (hgood w (List.mem_cons_of_mem _ (List.mem_cons_of_mem _ hw))) (hat w hw)
  have hk' : (Cond.classLink own ik nse).before args s' = true := vx_ot_at hW0 hvm.symm (hgood _ List.mem_cons_self) hk
  have hini' : (Cond.initialized nse).before args s' = true := vx_ot_at hW0 hvm.symm (hgood _ (List.mem_cons_of_mem _ List.mem_cons_self)) hini
  have hU' : vx_Zq Bundle.tN "UNASSIGNED_STACK" Bundle.steD A s' s'.heap := by rw [hhp]; exact vx_Zq.moved hW0.alike (hU.kept hS.2.1)
  have hN' : vx_Zq Bundle.tN "SUPPRESSED_SENTINEL" Bundle.listD A s' s'.heap := by rw [hhp]; exact vx_Zq.moved hW0.alike (hN.kept hS.2.1)
  have h : ∀ w ∈ nseAtoms own ic, w.before args s' = true := vx_own hat' (vx_isRefq hU'.1) (vx_isRefq hN'.1) hU'.2.word hN'.2.word
  have hown' : s'.vm.findClass own = some m.cls := by rw [hvm]; exact hown
  have hins : (Cond.instantiable nse 6).before args s' = true := h _ (by simp [nseAtoms])
  obtain ⟨vm₁, cX, kX, hfX, hkX, -, -, X₁, st1⟩ := Y.newCold hexec (own := own) (C := nse) (index := ik) (n := 6) hown' hk' hins hini'
    (g := F0 m pc ls rest) rfl (by rw [hb]; exact d0) (Nat.le_refl _) (Nat.le_refl _)
  generalize hT1 : (T.setVm vm₁).pushCell { cls := cX, slots := kX.instanceTypes.map defaultValue, vm := .none } = T1 at X₁ st1
  have hcat : (Value.ref T.heap.size).category = 1 := rfl
  have hcellA : T1.heap[T.heap.size]? = some (freshCell cX kX) := by rw [← hT1]; exact State.heap_pushCell_size _ _
  have d3' : decode c.code (pc + 3) = .ok (.dup, 1) := by rw [hb]; exact d3
  have d4' : decode c.code (pc + 4) = .ok (.ldc_w is, 3) := by rw [hb]; exact d4
  have hstr' : vk_R own is text sa s' := vk_R.warm hW0 hstr
  obtain ⟨U, hsteps, hrun, hend, hW, hsame, ce, hce, hOv, hOc⟩ := nse_ctorThrow X₁ hexec htr (own := own) (ic := ic) hown' h (fun x hx => nomatch hx) hfX hkX hcellA (by rw [hhp, hT]; exact Nat.le_refl _) (msg := .ref sa) rfl
    (g := { method := m, pc := pc + 7, locals := ls, stack := .ref sa :: .ref T.heap.size :: .ref T.heap.size :: rest, locked := none }) rfl hsize rfl rfl (rest := rest) rfl
    (by rw [hb]; exact d7) (by rw [hb]; exact d10) hout hRframes (by simp only [List.map_cons, List.sum_cons, hcat]; omega) hlocks
  obtain ⟨f1, f2⟩ := vx_frame hsame
  rw [hhp] at f1 f2
  have hWs : s.WarmedH U.vm := State.WarmedH.trans hW0 hW
  have hcl : s.vm.findClass nse = some ce.cls := by
    have h9 := hOc
    rw [hvm] at h9
    exact h9
  have hall : s.sameButNew ({ U with vm := s.vm } : State) locs mc ms := by
    subst hA
    obtain ⟨e1, e2⟩ := hsame
    rw [State.setFrames_setFrames] at e1
    have h2 : (T.setVm s.vm).sameButNew ({ U with vm := s.vm } : State) [] (0 + 1) (0 + 6) := ⟨e1, e2⟩
    have h3 := X.same.trans h2
    rw [List.append_nil] at h3
    exact h3.mono hc hs
  refine ⟨U, ?_, .threw T.heap.size, hrun, hend, Or.inr ⟨T.heap.size, rfl, nse, ce, locs, hx U hWs.alike f1 (fun q hq => f2 q hq (fun z hz => nomatch hz)), hce, hOv, hcl, hWs, hall, hf⟩⟩
  refine st1 _ ?_
  show Steps p.tables e below (T1.setTop { method := m, pc := pc + 3, locals := ls, stack := .ref T.heap.size :: rest, locked := none }) _
  jvm_step X₁.here [X₁.here.top, hexec, d3', Value.category]
  exact X₁.ldcStringW hexec (own := own) (text := text) (index := is) (a := sa) hown' hstr'.1 hstr'.2
    (g := { method := m, pc := pc + 4, locals := ls, stack := .ref T.heap.size :: .ref T.heap.size :: rest, locked := none }) rfl d4' _ hsteps
end NSEEND
def Qx (g : GG) (PostX : MM → Prop) (A : Nat → Prop) : String → State → State → Prop := fun E st t => E = nse ∧ (∃ M' : MM, PostX M' ∧ Wv g M' A t.heap) ∧ va_F A st t
def CtX (g : GG) (l : Launch) (y : MethodName) (cc : ByteArray) (nL : Nat) (ret : Option FieldType) (rm : Room) (av : List Value) (M : MM) (Post : Option Value → MM → Prop) (PostX : MM → Prop) : Prop :=
  ∀ sz : Nat, vx_Met l y (.code y cc nL ret :: tb) rm (va_Pc av (fun U => U.heap.size = sz ∧ Wd g M U ∧ Cst U)) (Qg g Post (Areg M.1 sz)) (Qx g PostX (Areg M.1 sz)) rm.cells rm.slots (Areg M.1 sz)
theorem Wv.grow {g : GG} {M : MM} {A : Nat → Prop} {H H1 : Heap} (h : Wv g M A H) (hq : ∀ q : Nat, q < H.size → H1[q]? = H[q]?) : Wv g M A H1 := by
  obtain ⟨L, hL, hP, hD⟩ := h
  exact ⟨L, hL, hP.kept (fun k q hk => hq q.1 (vx_lt hP hk)), hD⟩
abbrev RqX (g : GG) (X : XT) (rm : Room) (Post : Option Value → MM → Prop) (PostX : MM → Prop) : Prop := xQ X = vx_MQ (xB X) (Qg g Post (Areg (xK X) (xS X).heap.size)) (Qx g PostX (Areg (xK X) (xS X).heap.size)) (xA X) (xS X) rm.cells rm.slots (Areg (xK X) (xS X).heap.size)
section INTROX
variable {g : GG} {l : Launch} {y : MethodName} {cc : ByteArray} {nL : Nat} {rm : Room} {av : List Value} {M0 : MM} {Post : Option Value → MM → Prop} {PostX : MM → Prop}
theorem Ct_introX {ret : Option FieldType} (hy : plainName y.cls = true) (hlen : (lg_sl av).length ≤ nL)
    (body : ∀ X : XT, Cx g X cc y.cls nL rm → xL X = l → xK X = M0.1 → (xT X).name = y.name → (xT X).sig.returnType = ret → (xT X).locks = false → Cst (xS X) → RqX g X rm Post PostX → (∀ x ∈ (xC X).exceptionTable.toList, False) → P g X nL 0 (lv_args 0 av) [] 0 0 M0) : CtX g l y cc nL ret rm av M0 Post PostX := by
  intro sz
  refine vx_ofW (cc := cc) (maxL := nL) (ret := ret) hy rfl ?_
  intro p e s m args below meth c s₁ B hml htab hv
  obtain ⟨rfl, hsz, hW, hcs⟩ := hv
  subst hsz
  have hts := atoms_spec (ws := Cond.code y cc nL ret :: tb) B.pre
  have hl := lv_entry av (n := nL) hlen
  rw [lg_entry_eq]
  exact body (p, l, e, _, s, m, av.toArray, below, meth, c, _, M0.1) ⟨B.exec, B.bytes, hml, findClass_of_methodNamed B.named, fun w hw => hts w (List.mem_cons_of_mem _ hw), hW.2.1, hW.2.2.1, hW.2.2.2, rfl⟩ rfl rfl (name_of_methodNamed B.named B.method).1 B.returns B.notSynchronized hcs rfl htab s.heap [] _ (hW.1.weaken (fun a ha => Or.inl ha)) va_S.rf hl
end INTROX
section RETX
variable {g : GG} {X : XT} {cc : ByteArray} {own : String} {nL : Nat} {rm : Room} {pc : Nat} {lv : List (Nat × Value)} {cn sn : Nat} {M : MM} {Post : Option Value → MM → Prop} {PostX : MM → Prop}
theorem r_iretX (hC : Cx g X cc own nL rm) (hQ : RqX g X rm Post PostX) (hlocks : (xT X).locks = false) {ty : FieldType} (hr : (xT X).sig.returnType = some ty) {v : Int32} (hn : narrow ty (.int v) = .int v) (h1 : cn ≤ rm.cells) (h2 : sn ≤ rm.slots) (hd : decode cc pc = .ok (.ireturn, 1)) (hp : Post (some (.int v)) M) : P g X nL pc lv [.int v] cn sn M := by
  intro H locs ls hw hS hl
  refine W.widen h1 h2 ?_
  rw [hQ]
  exact vx_ret (W.zret hC.1 hC.2.1 hr hn (q_of hw hS hp) hS.2.2 hd hlocks)
theorem led_words : ∀ w ∈ (nseAtoms "HillTap" 263).filter vx_no, w ∈ tb ∨ w ∈ cstW := by decide +kernel
theorem led_good : ∀ w ∈ Cond.classLink "HillTap" 259 nse :: Cond.initialized nse :: (nseAtoms "HillTap" 263).filter vx_no, vx_ot w = true := by decide +kernel
theorem led_w1 : Cond.classLink "HillTap" 259 nse ∈ tb := by decide +kernel
theorem led_w2 : Cond.initialized nse ∈ tb := by decide +kernel
theorem r_throw (hC : Cx g X cc "HillTap" nL rm) (hcs : Cst (xS X)) (hQ : RqX g X rm Post PostX) (hlocks : (xT X).locks = false) (htab : ∀ x ∈ (xC X).exceptionTable.toList, False) (hl : (xL X).stackTraces = false) {i is : Nat} {text : String} (hi : i < 60) (hs : sT.getD i ("", 0, "") = ("HillTap", is, text))
    (d0 : decode cc pc = .ok (.new 259, 3)) (d3 : decode cc (pc + 3) = .ok (.dup, 1)) (d4 : decode cc (pc + 4) = .ok (.ldc_w is, 3)) (d7 : decode cc (pc + 7) = .ok (.invokespecial 263, 3)) (d10 : decode cc (pc + 10) = .ok (.athrow, 1))
    (hf : 5 < rm.frames) (hlo : 82 ≤ rm.locals) (h1 : cn + 1 ≤ rm.cells) (h2 : sn + 6 ≤ rm.slots) (hp : PostX M) : P g X nL pc lv [] cn sn M := by
  intro H locs ls hw hS hl'
  have hR := hC.2.2.2.2.2.2.2.2
  have hstr := hC.2.2.2.2.2.2.2.1.1 i hi
  rw [hs] at hstr
  rw [hQ]
  refine nse_throwW hC.1 hC.2.1 hl hC.2.2.2.1 (hC.2.2.2.2.1 _ led_w1) (hC.2.2.2.2.1 _ led_w2) hstr (fun w hw => (led_words w hw).elim (fun h => hC.2.2.2.2.1 _ h) (fun h => hcs.words w h)) led_good hC.2.2.2.2.2.2.1.2.2.2.1 hC.2.2.2.2.2.2.1.2.2.2.2 hS (hl'.1.trans hC.2.2.1.symm) d0 d3 d4 d7 d10 (fun x hx => (htab x hx).elim) (by rw [hR]; exact hf) (by rw [hR]; exact hlo) (by rw [hR]; exact h1) (by rw [hR]; exact h2) hlocks ?_ hS.2.2 h1 h2
  intro t _ hz hk
  refine ⟨rfl, ⟨M, hp, hw.grow hk⟩, Nat.le_trans hS.1 hz, fun q h3 h4 => ?_⟩
  rw [hk q (Nat.lt_of_lt_of_le h3 hS.1)]
  exact hS.2.1 q h3 h4
end RETX
section CALLX
variable {g : GG} {X : XT} {cc : ByteArray} {own : String} {nL : Nat} {rm : Room} {pc : Nat} {lv : List (Nat × Value)} {st : List Value} {cn sn : Nat} {M : MM}
theorem blindC {av : List Value} {sz : Nat} : FrameBlind (va_Pc av (fun U => U.heap.size = sz ∧ Wd g M U ∧ Cst U)) := fun a U gf mk h => ⟨h.1, h.2.1, h.2.2.1.calling, Cst.moved (u := U) (U := U.calling gf mk a) (Vm.Alike.refl U.vm) h.2.2.2⟩
theorem P_runX (hC : Cx g X cc own nL rm) (hcs : Cst (xS X)) {st0 rest : List Value} {mc ms : Nat} {Post : Option Value → MM → Prop} {PostX : MM → Prop} {av : Array Value} {x : ExceptionTableEntry} {tl : List ExceptionTableEntry} (htab : (xC X).exceptionTable.toList = x :: tl) (hcov : covers x pc = true) (h0 : x.catchType ≠ 0) (hlink : Cond.classLink own x.catchType nse ∈ tb)
    (hr : ∀ (H : Heap) (locs : List Loc) (ls : Array Slot), Wv g M (Areg (xK X) (xS X).heap.size) H → va_S (Areg (xK X) (xS X).heap.size) (xS X).heap H locs → lv_has ls nL lv →
      vx_Run (xP X) (xL X) (xE X) (xR X) (xS X) (xM X) (xA X) (xB X) (xT X) (xC X) H locs cn sn mc ms (F0 (xM X) pc ls st0) rest (Qg g Post (Areg M.1 H.size) av) (Qx g PostX (Areg M.1 H.size)) (Areg M.1 H.size))
    (kk : ∀ v M', Post v M' → P g X nL (pc + 3) lv (v.toList ++ rest) (cn + mc) (sn + ms) M') (kx : ∀ q M', PostX M' → P g X nL x.handlerPc lv [.ref q] (cn + mc) (sn + ms) M') : P g X nL pc lv st0 cn sn M := by
  intro H locs ls hw hS hl T hT XS
  have hsub := reg_sub hw hS
  rcases hr H locs ls hw hS hl T hT XS with ⟨v, st₀, t, T', L, h9, X', hL, e1, e2, ⟨⟨v', M', hv, hp, hb⟩, hz, hk⟩, stp⟩ | ⟨q, st₀, t, T', L, E, ce, h9, X', hL, e1, e2, ⟨hE, ⟨M', hp, hb⟩, hz, hk⟩, hce, hcv, hcl, stp⟩
  · cases hv
    rw [h9] at hz hk
    obtain ⟨t2, a1, b1⟩ := kk v M' hp T'.heap (locs ++ L) ls (by rw [e1]; exact hb.weaken (fun a ha => hsub a (hb.inA ha)))
      ⟨Nat.le_trans hS.1 (by rw [e1]; exact hz), fun q h1 h2 => by rw [e1, hk q (Nat.lt_of_lt_of_le h1 hS.1) (fun z => h2 (hsub q z))]; exact hS.2.1 q h1 h2, fun q hq => by
        rcases List.mem_append.mp hq with h | h
        · exact hS.2.2 q h
        · exact hsub _ (hL q h)⟩ hl T' rfl X'
    exact ⟨t2, stp t2 a1, b1⟩
  · subst hE
    rw [h9] at hz hk
    obtain ⟨c3, c4, hc3, hc4, hasg⟩ := Cond.castable_spec (hcs.word (args := xA X))
    cases Option.some.inj (hc3.symm.trans hcl)
    cases Option.some.inj (hc4.symm.trans hcl)
    obtain ⟨vm', X'', st1⟩ := vy_caught X' q (g := F0 (xM X) pc ls rest) rfl (cell := ce) (by rw [e1]; exact hce) (by rw [hcv]; rfl) (own := own) (name := nse) hC.2.2.2.1 x tl htab hcov h0 (hC.2.2.2.2.1 _ hlink) hcl (Vm.classAt_of_findClass hcl) hasg
    obtain ⟨t2, a1, b1⟩ := kx q M' hp T'.heap (locs ++ L) ls (by rw [e1]; exact hb.weaken (fun a ha => hsub a (hb.inA ha)))
      ⟨Nat.le_trans hS.1 (by rw [e1]; exact hz), fun q h1 h2 => by rw [e1, hk q (Nat.lt_of_lt_of_le h1 hS.1) (fun z => h2 (hsub q z))]; exact hS.2.1 q h1 h2, fun q hq => by
        rcases List.mem_append.mp hq with h | h
        · exact hS.2.2 q h
        · exact hsub _ (hL q h)⟩ hl (T'.setVm vm') rfl X''
    exact ⟨t2, stp.trans (st1 t2 a1), b1⟩
variable {y : MethodName} {bc : ByteArray} {nc : Nat} {ret : Option FieldType} {rc : Room} {ix n : Nat} {Post : Option Value → MM → Prop} {PostX : MM → Prop}
theorem r_callVX (hC : Cx g X cc own nL rm) (hcs : Cst (xS X)) {x : ExceptionTableEntry} {tl : List ExceptionTableEntry} (htab : (xC X).exceptionTable.toList = x :: tl) (hcov : covers x pc = true) (h0 : x.catchType ≠ 0) (hclink : Cond.classLink own x.catchType nse ∈ tb) {b ci N : Nat} {C : String} {T : u_T} {As rest : List Value} (hM : CtX g (xL X) y bc nc ret rc (.ref b :: As) M Post PostX) (hcode : Cond.code y bc nc ret ∈ tb) (hini : Cond.initialized y.cls ∈ tb) (hlink : Cond.methodLink own ix y ∈ tb) (hinst : Cond.instanceMethod y ∈ tb) (hsel : Cond.selects C y y ∈ tb) (hy : yOk y n) (hroom : rc.frames + 1 ≤ rm.frames ∧ 8 + (nc + 11) + rc.locals ≤ rm.locals) (hcl : vwCl[ci]? = some (C, T, N)) (hO : kO (M.1 b) = some ci) (hn : As.length = n) (hst : st = As.reverse ++ .ref b :: rest) (hsum : (rest.map fun v => v.category).sum ≤ 8) (hcells : cn + rc.cells ≤ rm.cells ∧ sn + rc.slots ≤ rm.slots) (hd : decode cc pc = .ok (.invokevirtual ix, 3))
    (kk : ∀ v M', Post v M' → P g X nL (pc + 3) lv (v.toList ++ rest) (cn + rc.cells) (sn + rc.slots) M') (kx : ∀ q M', PostX M' → P g X nL x.handlerPc lv [.ref q] (cn + rc.cells) (sn + rc.slots) M') : P g X nL pc lv st cn sn M := by
  refine P_runX hC hcs htab hcov h0 hclink (av := (Value.ref b :: As).toArray) (fun H locs ls hw hS hl => ?_) kk kx
  obtain ⟨L, q, hL, hP, hD, hq⟩ := hw.at (kO_ne hO)
  rw [cellE_obj hO] at hq
  exact vx_runV (As := As) (rest := rest) ⟨hC.1, hC.2.1, hC.2.2.1, hC.2.2.2.1, hC.2.2.2.2.1⟩ (hM H.size) ⟨cB hC hcode hini hlink hy hroom, hC.2.2.2.2.1 _ hinst, hC.2.2.2.2.1 _ hsel⟩ ⟨blindC, va_recv hC.2.2.2.2.2.1 hP hcl hq, fun U hU hW => ⟨rfl, by rw [hU], Wd_at hC hw hS hU hW, hcs.moved hW.alike⟩⟩ rfl hn hl.1 hst (lv_room (rest := st) hsum) hd (by rw [hC.2.2.2.2.2.2.2.2]; exact hcells)
end CALLX
abbrev hhLed : List (Nat × Nat × Nat × Nat) := [(0, 10, 13, 13)]
def CtW (g : GG) (l : Launch) (y : MethodName) (cc : ByteArray) (nL : Nat) (ret : Option FieldType) (hh : List (Nat × Nat × Nat × Nat)) (rm : Room) (av : List Value) (M : MM) (Post : Option Value → MM → Prop) : Prop :=
  ∀ sz : Nat, Met l y (.codeWith y cc nL ret hh :: tb) rm (va_Pc av (fun U => U.heap.size = sz ∧ Wd g M U ∧ Cst U)) (Qg g Post (Areg M.1 sz)) rm.cells rm.slots (Areg M.1 sz)
section INTROW
variable {g : GG} {l : Launch} {y : MethodName} {cc : ByteArray} {nL : Nat} {rm : Room} {av : List Value} {M0 : MM} {Post : Option Value → MM → Prop} {hh : List (Nat × Nat × Nat × Nat)}
theorem Ct_introW {ret : Option FieldType} (hy : plainName y.cls = true) (hlen : (lg_sl av).length ≤ nL)
    (body : ∀ X : XT, Cx g X cc y.cls nL rm → xL X = l → xK X = M0.1 → (xT X).name = y.name → (xT X).sig.returnType = ret → (xT X).locks = false → Cst (xS X) → Rq g X rm Post → (xC X).exceptionTable.toList = tableOf hh → P g X nL 0 (lv_args 0 av) [] 0 0 M0) : CtW g l y cc nL ret hh rm av M0 Post := by
  intro sz
  refine va_MetW (cc := cc) (maxL := nL) (ret := ret) (hh := hh) hy rfl ?_
  intro p e s m args below meth c s₁ B hml hv
  obtain ⟨rfl, hsz, hW, hcs⟩ := hv
  subst hsz
  have hts := atoms_spec (ws := Cond.codeWith y cc nL ret hh :: tb) B.pre
  have hl := lv_entry av (n := nL) hlen
  rw [lg_entry_eq]
  exact body (p, l, e, _, s, m, av.toArray, below, meth, c, _, M0.1) ⟨B.exec, B.bytes, hml, findClass_of_methodNamed B.named, fun w hw => hts w (List.mem_cons_of_mem _ hw), hW.2.1, hW.2.2.1, hW.2.2.2, rfl⟩ rfl rfl (name_of_methodNamed B.named B.method).1 B.returns B.notSynchronized hcs rfl (vx_table (x := y) B (hts _ List.mem_cons_self)) s.heap [] _ (hW.1.weaken (fun a ha => Or.inl ha)) va_S.rf hl
end INTROW
section CALLW
variable {g : GG} {X : XT} {cc : ByteArray} {own : String} {nL : Nat} {rm : Room} {pc : Nat} {lv : List (Nat × Value)} {st : List Value} {cn sn : Nat} {M : MM}
variable {y : MethodName} {bc : ByteArray} {nc : Nat} {ret : Option FieldType} {rc : Room} {ix n : Nat} {Post : Option Value → MM → Prop} {hh : List (Nat × Nat × Nat × Nat)}
theorem goodW (h : Cond.codeWith y bc nc ret hh ∈ tb) : GoodIn tb (.codeWith y bc nc ret hh :: tb) := fun w hw => by
  rcases List.mem_cons.mp hw with e | e
  · subst e; exact ⟨h, good_of_word (tb_good h)⟩
  · exact ⟨e, good_of_word (tb_good e)⟩
theorem r_callSW (hC : Cx g X cc own nL rm) (hcs : Cst (xS X)) {As rest : List Value} (hM : CtW g (xL X) y bc nc ret hh rc As M Post) (hcode : Cond.codeWith y bc nc ret hh ∈ tb) (hini : Cond.initialized y.cls ∈ tb) (hlink : Cond.methodLink own ix y ∈ tb) (hstat : Cond.static y ∈ tb) (hy : yOk y n) (hroom : rc.frames + 1 ≤ rm.frames ∧ 8 + (nc + 11) + rc.locals ≤ rm.locals) (hn : As.length = n) (hst : st = As.reverse ++ rest) (hsum : (rest.map fun v => v.category).sum ≤ 8) (hcells : cn + rc.cells ≤ rm.cells ∧ sn + rc.slots ≤ rm.slots) (hd : decode cc pc = .ok (.invokestatic ix, 3))
    (kk : ∀ v M', Post v M' → P g X nL (pc + 3) lv (v.toList ++ rest) (cn + rc.cells) (sn + rc.slots) M') : P g X nL pc lv st cn sn M := by
  refine P_run (av := As.toArray) (fun H locs ls hw hS hl => ?_) kk
  have hts := hC.2.2.2.2.1
  have hR : xR X = rm := hC.2.2.2.2.2.2.2.2
  refine vx_runSW (As := As) (rest := rest) (n := n) (hh := hh) (bytes := bc) (maxL := nc) (ret := ret) ⟨hC.1, hC.2.1, hC.2.2.1, hC.2.2.2.1, hC.2.2.2.2.1⟩ (hM H.size) ⟨⟨rfl, rfl, by rw [hR]; exact hroom.1, by rw [hR]; exact hroom.2, pay_in hts (goodW hcode), List.mem_cons_self⟩, hts _ hcode, hts _ hini, ⟨hy.1, hy.2.1⟩, fun sig h => ?_, hts _ hlink, hts _ hstat⟩ ⟨blindC, fun U hU hW => ⟨rfl, by rw [hU], Wd_at hC hw hS hU hW, hcs.moved hW.alike⟩⟩ rfl hn hl.1 hst (lv_room (rest := st) hsum) hd (by rw [hR]; exact hcells)
  have h2 := hy.2.2
  rw [h] at h2
  exact (Option.some.inj h2).symm
end CALLW
theorem mW_led : Cond.codeWith yL_led cL_led 5 (some .int) hhLed ∈ tb := tbm_4 156 rfl rfl

