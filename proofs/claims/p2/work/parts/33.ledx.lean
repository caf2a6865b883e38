/-! methods that throw NoSuchElementException, over the pool; and the catching of it by the caller's own table -/
abbrev nse : String := "java/util/NoSuchElementException"
/-- the class of what is thrown is known, and fits itself -/
def Cst (U : State) : Prop := ∃ k, U.vm.findClass nse = some k ∧ U.vm.assignable k k = true
theorem Cst.moved {u U : State} (hvm : u.vm.Alike U.vm) (h : Cst u) : Cst U := by
  obtain ⟨k, h1, h2⟩ := h
  exact ⟨k, by rw [hvm.findClass]; exact h1, by rw [hvm.assignable]; exact h2⟩
theorem Cst.of {args : Array Value} {s : State} (h : (Cond.castable nse nse).before args s = true) : Cst s := by
  obtain ⟨c, t, h1, h2, h3⟩ := Cond.castable_spec h
  cases Option.some.inj (h1.symm.trans h2)
  exact ⟨c, h1, h3⟩
theorem Cst.word {args : Array Value} {s : State} (h : Cst s) : (Cond.castable nse nse).before args s = true := by
  obtain ⟨k, h1, h2⟩ := h
  simp [Cond.before, Cond.holds, Cond.value, h1, h2]
def Qx (g : GG) (PostX : MM → Prop) (A : Nat → Prop) : String → State → State → Prop := fun E st t => E = nse ∧ (∃ M' : MM, PostX M' ∧ Wv g M' A t.heap) ∧ va_F A st t
def CtX (g : GG) (l : Launch) (y : MethodName) (cc : ByteArray) (nL : Nat) (ret : Option FieldType) (rm : Room) (av : List Value) (M : MM) (Post : Option Value → MM → Prop) (PostX : MM → Prop) : Prop :=
  ∀ sz : Nat, vx_Met l y (.code y cc nL ret :: tb) rm (va_Pc av (fun U => U.heap.size = sz ∧ Wd g M U ∧ Cst U)) (Qg g Post (Areg M.1 sz)) (Qx g PostX (Areg M.1 sz)) rm.cells rm.slots (Areg M.1 sz)
theorem Wv.grow {g : GG} {M : MM} {A : Nat → Prop} {H H1 : Heap} (h : Wv g M A H) (hq : ∀ q : Nat, q < H.size → H1[q]? = H[q]?) : Wv g M A H1 := by
  obtain ⟨L, hL, hP, hD⟩ := h
  exact ⟨L, hL, hP.kept (fun k q hk => hq q.1 (vx_lt hP hk)), hD⟩
abbrev RqX (g : GG) (X : XT) (rm : Room) (Post : Option Value → MM → Prop) (PostX : MM → Prop) : Prop := xQ X = vx_MQ (xB X) (Qg g Post (Areg (xK X) (xS X).heap.size)) (Qx g PostX (Areg (xK X) (xS X).heap.size)) (xA X) (xS X) rm.cells rm.slots (Areg (xK X) (xS X).heap.size)
section INTROX
variable {g : GG} {l : Launch} {y : MethodName} {cc : ByteArray} {nL : Nat} {rm : Room} {av : List Value} {M0 : MM} {Post : Option Value → MM → Prop} {PostX : MM → Prop}
theorem Ct_introX {ret : Option FieldType} (hy : plainName y.cls = true) (hlen : (lg_sl av).length ≤ nL)
    (body : ∀ X : XT, Cx g X cc y.cls nL rm → xL X = l → xK X = M0.1 → (xT X).name = y.name → (xT X).sig.returnType = ret → (xT X).locks = false → Cst (xS X) → RqX g X rm Post PostX → (∀ x ∈ (xC X).exceptionTable.toList, False) → P g X nL 0 (lv_args 0 av) [] 0 0 M0) : CtX g l y cc nL ret rm av M0 Post PostX := by
  intro sz
  refine vx_ofW (cc := cc) (maxL := nL) (ret := ret) hy rfl ?_
  intro p e s m args below meth c s₁ B hml htab hv
  obtain ⟨rfl, hsz, hW, hcs⟩ := hv
  subst hsz
  have hts := atoms_spec (ws := Cond.code y cc nL ret :: tb) B.pre
  have hl := lv_entry av (n := nL) hlen
  rw [lg_entry_eq]
  exact body (p, l, e, _, s, m, av.toArray, below, meth, c, _, M0.1) ⟨B.exec, B.bytes, hml, findClass_of_methodNamed B.named, fun w hw => hts w (List.mem_cons_of_mem _ hw), hW.2.1, hW.2.2.1, hW.2.2.2, rfl⟩ rfl rfl (name_of_methodNamed B.named B.method).1 B.returns B.notSynchronized hcs rfl htab s.heap [] _ (hW.1.weaken (fun a ha => Or.inl ha)) va_S.rf hl
end INTROX
section RETX
variable {g : GG} {X : XT} {cc : ByteArray} {own : String} {nL : Nat} {rm : Room} {pc : Nat} {lv : List (Nat × Value)} {cn sn : Nat} {M : MM} {Post : Option Value → MM → Prop} {PostX : MM → Prop}
theorem r_iretX (hC : Cx g X cc own nL rm) (hQ : RqX g X rm Post PostX) (hlocks : (xT X).locks = false) {ty : FieldType} (hr : (xT X).sig.returnType = some ty) {v : Int32} (hn : narrow ty (.int v) = .int v) (h1 : cn ≤ rm.cells) (h2 : sn ≤ rm.slots) (hd : decode cc pc = .ok (.ireturn, 1)) (hp : Post (some (.int v)) M) : P g X nL pc lv [.int v] cn sn M := by
  intro H locs ls hw hS hl
  refine W.widen h1 h2 ?_
  rw [hQ]
  exact vx_ret (W.zret hC.1 hC.2.1 hr hn (q_of hw hS hp) hS.2.2 hd hlocks)
abbrev ledNames : List String := ["java/lang/RuntimeException", "java/lang/Exception"]
theorem led_words : ∀ w ∈ vx_atS "HillTap" 263 nse ledNames, w ∈ tb ∨ w = .castable nse nse := by decide +kernel
theorem led_good : ∀ w ∈ Cond.classLink "HillTap" 259 nse :: Cond.initialized nse :: vx_atS "HillTap" 263 nse ledNames, vx_ot w = true := by decide +kernel
theorem led_w1 : Cond.classLink "HillTap" 259 nse ∈ tb := by decide +kernel
theorem led_w2 : Cond.initialized nse ∈ tb := by decide +kernel
theorem r_throw (hC : Cx g X cc "HillTap" nL rm) (hcs : Cst (xS X)) (hQ : RqX g X rm Post PostX) (hlocks : (xT X).locks = false) (htab : ∀ x ∈ (xC X).exceptionTable.toList, False) (hl : (xL X).stackTraces = false) {i is : Nat} {text : String} (hi : i < 60) (hs : sT.getD i ("", 0, "") = ("HillTap", is, text))
    (d0 : decode cc pc = .ok (.new 259, 3)) (d3 : decode cc (pc + 3) = .ok (.dup, 1)) (d4 : decode cc (pc + 4) = .ok (.ldc_w is, 3)) (d7 : decode cc (pc + 7) = .ok (.invokespecial 263, 3)) (d10 : decode cc (pc + 10) = .ok (.athrow, 1))
    (hf : 5 < rm.frames) (hlo : 82 ≤ rm.locals) (h1 : cn + 1 ≤ rm.cells) (h2 : sn + 6 ≤ rm.slots) (hp : PostX M) : P g X nL pc lv [] cn sn M := by
  intro H locs ls hw hS hl'
  have hR := hC.2.2.2.2.2.2.2.2
  have hstr := hC.2.2.2.2.2.2.2.1.1 i hi
  rw [hs] at hstr
  rw [hQ]
  refine vx_throwSW hC.1 hC.2.1 hl hC.2.2.2.1 (by decide +kernel) (by decide +kernel) (hC.2.2.2.2.1 _ led_w1) (hC.2.2.2.2.1 _ led_w2) hstr (fun w hw => (led_words w hw).elim (fun h => hC.2.2.2.2.1 _ h) (fun h => by rw [h]; exact hcs.word)) led_good hC.2.2.2.2.2.2.1.2.2.2.1 hC.2.2.2.2.2.2.1.2.2.2.2 hS (hl'.1.trans hC.2.2.1.symm) d0 d3 d4 d7 d10 (fun x hx => (htab x hx).elim) (by rw [hR]; exact hf) (by rw [hR]; exact hlo) (by rw [hR]; exact h1) (by rw [hR]; exact h2) hlocks ?_ hS.2.2 h1 h2
  intro t _ hz hk
  refine ⟨rfl, ⟨M, hp, hw.grow hk⟩, Nat.le_trans hS.1 hz, fun q h3 h4 => ?_⟩
  rw [hk q (Nat.lt_of_lt_of_le h3 hS.1)]
  exact hS.2.1 q h3 h4
end RETX
section CALLX
variable {g : GG} {X : XT} {cc : ByteArray} {own : String} {nL : Nat} {rm : Room} {pc : Nat} {lv : List (Nat × Value)} {st : List Value} {cn sn : Nat} {M : MM}
theorem blindC {av : List Value} {sz : Nat} : FrameBlind (va_Pc av (fun U => U.heap.size = sz ∧ Wd g M U ∧ Cst U)) := fun _ U gf mk a h => ⟨h.1, h.2.1, h.2.2.1.calling, Cst.moved (u := U) (Vm.Alike.refl U.vm) h.2.2.2⟩
theorem P_runX (hC : Cx g X cc own nL rm) (hcs : Cst (xS X)) {st0 rest : List Value} {mc ms : Nat} {Post : Option Value → MM → Prop} {PostX : MM → Prop} {av : Array Value} {x : ExceptionTableEntry} {tl : List ExceptionTableEntry} (htab : (xC X).exceptionTable.toList = x :: tl) (hcov : covers x pc = true) (h0 : x.catchType ≠ 0) (hlink : Cond.classLink own x.catchType nse ∈ tb)
    (hr : ∀ (H : Heap) (locs : List Loc) (ls : Array Slot), Wv g M (Areg (xK X) (xS X).heap.size) H → va_S (Areg (xK X) (xS X).heap.size) (xS X).heap H locs → lv_has ls nL lv →
      vx_Run (xP X) (xL X) (xE X) (xR X) (xS X) (xM X) (xA X) (xB X) (xT X) (xC X) H locs cn sn mc ms (F0 (xM X) pc ls st0) rest (Qg g Post (Areg M.1 H.size) av) (Qx g PostX (Areg M.1 H.size)) (Areg M.1 H.size))
    (kk : ∀ v M', Post v M' → P g X nL (pc + 3) lv (v.toList ++ rest) (cn + mc) (sn + ms) M') (kx : ∀ q M', PostX M' → P g X nL x.handlerPc lv [.ref q] (cn + mc) (sn + ms) M') : P g X nL pc lv st0 cn sn M := by
  intro H locs ls hw hS hl T hT XS
  have hsub := reg_sub hw hS
  rcases hr H locs ls hw hS hl T hT XS with ⟨v, st₀, t, T', L, h9, X', hL, e1, e2, ⟨⟨v', M', hv, hp, hb⟩, hz, hk⟩, stp⟩ | ⟨q, st₀, t, T', L, E, ce, h9, X', hL, e1, e2, ⟨hE, ⟨M', hp, hb⟩, hz, hk⟩, hce, hcv, hcl, stp⟩
  · cases hv
    rw [h9] at hz hk
    obtain ⟨t2, a1, b1⟩ := kk v M' hp T'.heap (locs ++ L) ls (by rw [e1]; exact hb.weaken (fun a ha => hsub a (hb.inA ha)))
      ⟨Nat.le_trans hS.1 (by rw [e1]; exact hz), fun q h1 h2 => by rw [e1, hk q (Nat.lt_of_lt_of_le h1 hS.1) (fun z => h2 (hsub q z))]; exact hS.2.1 q h1 h2, fun q hq => by
        rcases List.mem_append.mp hq with h | h
        · exact hS.2.2 q h
        · exact hsub _ (hL q h)⟩ hl T' rfl X'
    exact ⟨t2, stp t2 a1, b1⟩
  · subst hE
    rw [h9] at hz hk
    obtain ⟨c3, c4, hc3, hc4, hasg⟩ := Cond.castable_spec (hcs.word (args := xA X))
    cases Option.some.inj (hc3.symm.trans hcl)
    cases Option.some.inj (hc4.symm.trans hcl)
    obtain ⟨vm', X'', st1⟩ := vy_caught X' q (g := F0 (xM X) pc ls rest) rfl (cell := ce) (by rw [e1]; exact hce) (by rw [hcv]; rfl) (own := own) (name := nse) hC.2.2.2.1 x tl htab hcov h0 (hC.2.2.2.2.1 _ hlink) hcl (Vm.classAt_of_findClass hcl) hasg
    obtain ⟨t2, a1, b1⟩ := kx q M' hp T'.heap (locs ++ L) ls (by rw [e1]; exact hb.weaken (fun a ha => hsub a (hb.inA ha)))
      ⟨Nat.le_trans hS.1 (by rw [e1]; exact hz), fun q h1 h2 => by rw [e1, hk q (Nat.lt_of_lt_of_le h1 hS.1) (fun z => h2 (hsub q z))]; exact hS.2.1 q h1 h2, fun q hq => by
        rcases List.mem_append.mp hq with h | h
        · exact hS.2.2 q h
        · exact hsub _ (hL q h)⟩ hl (T'.setVm vm') rfl X''
    exact ⟨t2, stp.trans (st1 t2 a1), b1⟩
variable {y : MethodName} {bc : ByteArray} {nc : Nat} {ret : Option FieldType} {rc : Room} {ix n : Nat} {Post : Option Value → MM → Prop} {PostX : MM → Prop}
theorem r_callVX (hC : Cx g X cc own nL rm) (hcs : Cst (xS X)) {x : ExceptionTableEntry} {tl : List ExceptionTableEntry} (htab : (xC X).exceptionTable.toList = x :: tl) (hcov : covers x pc = true) (h0 : x.catchType ≠ 0) (hclink : Cond.classLink own x.catchType nse ∈ tb) {b ci N : Nat} {C : String} {T : u_T} {As rest : List Value} (hM : CtX g (xL X) y bc nc ret rc (.ref b :: As) M Post PostX) (hcode : Cond.code y bc nc ret ∈ tb) (hini : Cond.initialized y.cls ∈ tb) (hlink : Cond.methodLink own ix y ∈ tb) (hinst : Cond.instanceMethod y ∈ tb) (hsel : Cond.selects C y y ∈ tb) (hy : yOk y n) (hroom : rc.frames + 1 ≤ rm.frames ∧ 8 + (nc + 11) + rc.locals ≤ rm.locals) (hcl : vwCl[ci]? = some (C, T, N)) (hO : kO (M.1 b) = some ci) (hn : As.length = n) (hst : st = As.reverse ++ .ref b :: rest) (hsum : (rest.map fun v => v.category).sum ≤ 8) (hcells : cn + rc.cells ≤ rm.cells ∧ sn + rc.slots ≤ rm.slots) (hd : decode cc pc = .ok (.invokevirtual ix, 3))
    (kk : ∀ v M', Post v M' → P g X nL (pc + 3) lv (v.toList ++ rest) (cn + rc.cells) (sn + rc.slots) M') (kx : ∀ q M', PostX M' → P g X nL x.handlerPc lv [.ref q] (cn + rc.cells) (sn + rc.slots) M') : P g X nL pc lv st cn sn M := by
  refine P_runX hC hcs htab hcov h0 hclink (av := (Value.ref b :: As).toArray) (fun H locs ls hw hS hl => ?_) kk kx
  obtain ⟨L, q, hL, hP, hD, hq⟩ := hw.at (kO_ne hO)
  rw [cellE_obj hO] at hq
  exact vx_runV (As := As) (rest := rest) ⟨hC.1, hC.2.1, hC.2.2.1, hC.2.2.2.1, hC.2.2.2.2.1⟩ (hM H.size) ⟨cB hC hcode hini hlink hy hroom, hC.2.2.2.2.1 _ hinst, hC.2.2.2.2.1 _ hsel⟩ ⟨blindC, va_recv hC.2.2.2.2.2.1 hP hcl hq, fun U hU hW => ⟨rfl, by rw [hU], Wd_at hC hw hS hU hW, hcs.moved hW.alike⟩⟩ rfl hn hl.1 hst (lv_room (rest := st) hsum) hd (by rw [hC.2.2.2.2.2.2.2.2]; exact hcells)
end CALLX
/-! a method with a table of its own, that always returns -/
abbrev hhLed : List (Nat × Nat × Nat × Nat) := [(0, 10, 13, 13)]
def CtW (g : GG) (l : Launch) (y : MethodName) (cc : ByteArray) (nL : Nat) (ret : Option FieldType) (hh : List (Nat × Nat × Nat × Nat)) (rm : Room) (av : List Value) (M : MM) (Post : Option Value → MM → Prop) : Prop :=
  ∀ sz : Nat, Met l y (.codeWith y cc nL ret hh :: tb) rm (va_Pc av (fun U => U.heap.size = sz ∧ Wd g M U ∧ Cst U)) (Qg g Post (Areg M.1 sz)) rm.cells rm.slots (Areg M.1 sz)
section INTROW
variable {g : GG} {l : Launch} {y : MethodName} {cc : ByteArray} {nL : Nat} {rm : Room} {av : List Value} {M0 : MM} {Post : Option Value → MM → Prop} {hh : List (Nat × Nat × Nat × Nat)}
theorem Ct_introW {ret : Option FieldType} (hy : plainName y.cls = true) (hlen : (lg_sl av).length ≤ nL)
    (body : ∀ X : XT, Cx g X cc y.cls nL rm → xL X = l → xK X = M0.1 → (xT X).name = y.name → (xT X).sig.returnType = ret → (xT X).locks = false → Cst (xS X) → Rq g X rm Post → (xC X).exceptionTable.toList = tableOf hh → P g X nL 0 (lv_args 0 av) [] 0 0 M0) : CtW g l y cc nL ret hh rm av M0 Post := by
  intro sz
  refine va_MetW (cc := cc) (maxL := nL) (ret := ret) (hh := hh) hy rfl ?_
  intro p e s m args below meth c s₁ B hml hv
  obtain ⟨rfl, hsz, hW, hcs⟩ := hv
  subst hsz
  have hts := atoms_spec (ws := Cond.codeWith y cc nL ret hh :: tb) B.pre
  have hl := lv_entry av (n := nL) hlen
  rw [lg_entry_eq]
  exact body (p, l, e, _, s, m, av.toArray, below, meth, c, _, M0.1) ⟨B.exec, B.bytes, hml, findClass_of_methodNamed B.named, fun w hw => hts w (List.mem_cons_of_mem _ hw), hW.2.1, hW.2.2.1, hW.2.2.2, rfl⟩ rfl rfl (name_of_methodNamed B.named B.method).1 B.returns B.notSynchronized hcs rfl (vx_table (x := y) B (hts _ List.mem_cons_self)) s.heap [] _ (hW.1.weaken (fun a ha => Or.inl ha)) va_S.rf hl
end INTROW
section CALLW
variable {g : GG} {X : XT} {cc : ByteArray} {own : String} {nL : Nat} {rm : Room} {pc : Nat} {lv : List (Nat × Value)} {st : List Value} {cn sn : Nat} {M : MM}
variable {y : MethodName} {bc : ByteArray} {nc : Nat} {ret : Option FieldType} {rc : Room} {ix n : Nat} {Post : Option Value → MM → Prop} {hh : List (Nat × Nat × Nat × Nat)}
theorem goodW (h : Cond.codeWith y bc nc ret hh ∈ tb) : GoodIn tb (.codeWith y bc nc ret hh :: tb) := fun w hw => by
  rcases List.mem_cons.mp hw with e | e
  · subst e; exact ⟨h, good_of_word (tb_good h)⟩
  · exact ⟨e, good_of_word (tb_good e)⟩
theorem r_callSW (hC : Cx g X cc own nL rm) (hcs : Cst (xS X)) {As rest : List Value} (hM : CtW g (xL X) y bc nc ret hh rc As M Post) (hcode : Cond.codeWith y bc nc ret hh ∈ tb) (hini : Cond.initialized y.cls ∈ tb) (hlink : Cond.methodLink own ix y ∈ tb) (hstat : Cond.static y ∈ tb) (hy : yOk y n) (hroom : rc.frames + 1 ≤ rm.frames ∧ 8 + (nc + 11) + rc.locals ≤ rm.locals) (hn : As.length = n) (hst : st = As.reverse ++ rest) (hsum : (rest.map fun v => v.category).sum ≤ 8) (hcells : cn + rc.cells ≤ rm.cells ∧ sn + rc.slots ≤ rm.slots) (hd : decode cc pc = .ok (.invokestatic ix, 3))
    (kk : ∀ v M', Post v M' → P g X nL (pc + 3) lv (v.toList ++ rest) (cn + rc.cells) (sn + rc.slots) M') : P g X nL pc lv st cn sn M := by
  refine P_run (av := As.toArray) (fun H locs ls hw hS hl => ?_) kk
  have hts := hC.2.2.2.2.1
  have hR : xR X = rm := hC.2.2.2.2.2.2.2.2
  refine vx_runSW (As := As) (rest := rest) (n := n) (hh := hh) (bytes := bc) (maxL := nc) (ret := ret) ⟨hC.1, hC.2.1, hC.2.2.1, hC.2.2.2.1, hC.2.2.2.2.1⟩ (hM H.size) ⟨⟨rfl, rfl, by rw [hR]; exact hroom.1, by rw [hR]; exact hroom.2, pay_in hts (goodW hcode), List.mem_cons_self⟩, hts _ hcode, hts _ hini, ⟨hy.1, hy.2.1⟩, fun sig h => ?_, hts _ hlink, hts _ hstat⟩ ⟨blindC, fun U hU hW => ⟨rfl, by rw [hU], Wd_at hC hw hS hU hW, hcs.moved hW.alike⟩⟩ rfl hn hl.1 hst (lv_room (rest := st) hsum) hd (by rw [hR]; exact hcells)
  have h2 := hy.2.2
  rw [h] at h2
  exact (Option.some.inj h2).symm
end CALLW
theorem mW_led : Cond.codeWith yL_led cL_led 5 (some .int) hhLed ∈ tb := tbm_4 156 rfl rfl
