section CALL
variable {g : GG} {X : XT} {cc : ByteArray} {own : String} {nL : Nat} {rm : Room} {pc : Nat} {lv : List (Nat × Value)} {st : List Value} {cn sn : Nat} {M : MM}
theorem Wd.calling {U : State} {gf : JFrame} {mk : MethodId} {a : Array Value} (h : Wd g M U) : Wd g M (U.calling gf mk a) := ⟨h.1, va_K.moved (u := U) (U := U.calling gf mk a) (Vm.Alike.refl U.vm) h.2.1, Hx.moved (u := U) (U := U.calling gf mk a) (Vm.Alike.refl U.vm) h.2.2.1, Ex.same (u := U) (U := U.calling gf mk a) rfl h.2.2.2⟩
theorem reg_sub {H : Heap} {locs : List Loc} (hw : Wv g M (Areg (xK X) (xS X).heap.size) H) (hS : va_S (Areg (xK X) (xS X).heap.size) (xS X).heap H locs) : ∀ q, Areg M.1 H.size q → Areg (xK X) (xS X).heap.size q := by
  intro q h
  rcases h with h | h
  · exact hw.inA h
  · exact Or.inr (Nat.le_trans hS.1 h)
theorem Wd_at (hC : Cx g X cc own nL rm) {H : Heap} {locs : List Loc} (hw : Wv g M (Areg (xK X) (xS X).heap.size) H) (hS : va_S (Areg (xK X) (xS X).heap.size) (xS X).heap H locs) {U : State} (hU : U.heap = H) (hW : (xS X).WarmedH U.vm) : Wd g M U := by
  subst hU
  exact ⟨hw.weaken (fun _ _ => trivial), va_K.moved hW.alike hC.2.2.2.2.2.1, Hx.moved hW.alike ((hC.2.2.2.2.2.2.1.kept hS.2.1).narrow (reg_sub hw hS)), Ex.warm hW hC.2.2.2.2.2.2.2.1⟩
theorem blind {av : List Value} {sz : Nat} : FrameBlind (va_Pc av (fun U => U.heap.size = sz ∧ Wd g M U)) := fun _ _ _ _ h => ⟨h.1, h.2.1, h.2.2.calling⟩
theorem P_run {st0 rest : List Value} {mc ms : Nat} {Post : Option Value → MM → Prop} {av : Array Value} (hr : ∀ (H : Heap) (locs : List Loc) (ls : Array Slot), Wv g M (Areg (xK X) (xS X).heap.size) H → va_S (Areg (xK X) (xS X).heap.size) (xS X).heap H locs → lv_has ls nL lv →
      va_Run (xP X) (xL X) (xE X) (xR X) (xS X) (xM X) (xA X) (xB X) (xT X) (xC X) H locs cn sn mc ms (F0 (xM X) pc ls st0) rest (Qg g Post (Areg M.1 H.size) av) (Areg M.1 H.size))
    (kk : ∀ v M', Post v M' → P g X nL (pc + 3) lv (v.toList ++ rest) (cn + mc) (sn + ms) M') : P g X nL pc lv st0 cn sn M := by
  intro H locs ls hw hS hl T hT XS
  obtain ⟨v, st₀, t, T', L, h0, X', hL, e1, e2, ⟨⟨v', M', hv, hp, hb⟩, hz, hk⟩, stp⟩ := hr H locs ls hw hS hl T hT XS
  cases hv
  rw [h0] at hz hk
  have hsub := reg_sub hw hS
  obtain ⟨t2, a1, b1⟩ := kk v M' hp T'.heap (locs ++ L) ls (by rw [e1]; exact hb.weaken (fun a ha => hsub a (hb.inA ha)))
    ⟨Nat.le_trans hS.1 (by rw [e1]; exact hz), fun q h1 h2 => by rw [e1, hk q (Nat.lt_of_lt_of_le h1 hS.1) (fun z => h2 (hsub q z))]; exact hS.2.1 q h1 h2, fun q hq => by
      rcases List.mem_append.mp hq with h | h
      · exact hS.2.2 q h
      · exact hsub _ (hL q h)⟩ hl T' rfl X'
  exact ⟨t2, stp t2 a1, b1⟩
theorem goodT {y : MethodName} {b : ByteArray} {n : Nat} {r : Option FieldType} (h : Cond.code y b n r ∈ tb) : GoodIn tb (.code y b n r :: tb) := fun w hw => by
  rcases List.mem_cons.mp hw with e | e
  · subst e; exact ⟨h, good_of_word (tb_good h)⟩
  · exact ⟨e, good_of_word (tb_good e)⟩
abbrev yOk (y : MethodName) (n : Nat) : Prop := y.cls ≠ "java/lang/invoke/MethodHandle" ∧ y.cls ≠ "java/lang/invoke/VarHandle" ∧ (parseMethodDescriptor y.desc).map (fun d => d.parameters.length) = some n
variable {y : MethodName} {bc : ByteArray} {nc : Nat} {ret : Option FieldType} {rc : Room} {ix n : Nat} {Post : Option Value → MM → Prop}
theorem cB (hC : Cx g X cc own nL rm) (hcode : Cond.code y bc nc ret ∈ tb) (hini : Cond.initialized y.cls ∈ tb) (hlink : Cond.methodLink own ix y ∈ tb) (hy : yOk y n) (hroom : rc.frames + 1 ≤ rm.frames ∧ 8 + (nc + 11) + rc.locals ≤ rm.locals) :
    CallB (xR X) (xS X) (xA X) own ix y bc nc ret (.code y bc nc ret :: tb) rc rc.cells rc.slots n :=
  callB_of n hC.2.2.2.2.1 (goodT hcode) rfl rfl rfl (hC.2.2.2.2.1 _ hini) (hC.2.2.2.2.1 _ hlink) hy (by rw [hC.2.2.2.2.2.2.2.2]; exact hroom)
theorem r_callV (hC : Cx g X cc own nL rm) {b ci N : Nat} {C : String} {T : u_T} {As rest : List Value} (hM : Ct g (xL X) y bc nc ret rc (.ref b :: As) M Post) (hcode : Cond.code y bc nc ret ∈ tb) (hini : Cond.initialized y.cls ∈ tb) (hlink : Cond.methodLink own ix y ∈ tb) (hinst : Cond.instanceMethod y ∈ tb) (hsel : Cond.selects C y y ∈ tb) (hy : yOk y n) (hroom : rc.frames + 1 ≤ rm.frames ∧ 8 + (nc + 11) + rc.locals ≤ rm.locals) (hcl : vwCl[ci]? = some (C, T, N)) (hO : kO (M.1 b) = some ci) (hn : As.length = n) (hst : st = As.reverse ++ .ref b :: rest) (hsum : (rest.map fun v => v.category).sum ≤ 8) (hcells : cn + rc.cells ≤ rm.cells ∧ sn + rc.slots ≤ rm.slots) (hd : decode cc pc = .ok (.invokevirtual ix, 3))
    (kk : ∀ v M', Post v M' → P g X nL (pc + 3) lv (v.toList ++ rest) (cn + rc.cells) (sn + rc.slots) M') : P g X nL pc lv st cn sn M := by
  refine P_run (av := (Value.ref b :: As).toArray) (fun H locs ls hw hS hl => ?_) kk
  obtain ⟨L, q, hL, hP, hD, hq⟩ := hw.at (kO_ne hO)
  rw [cellE_obj hO] at hq
  exact va_runV (As := As) (rest := rest) ⟨hC.1, hC.2.1, hC.2.2.1, hC.2.2.2.1, hC.2.2.2.2.1⟩ (hM H.size) ⟨cB hC hcode hini hlink hy hroom, hC.2.2.2.2.1 _ hinst, hC.2.2.2.2.1 _ hsel⟩ ⟨blind, va_recv hC.2.2.2.2.2.1 hP hcl hq, fun U hU hW => ⟨rfl, by rw [hU], Wd_at hC hw hS hU hW⟩⟩ rfl hn hl.1 hst (lv_room (rest := st) hsum) hd (by rw [hC.2.2.2.2.2.2.2.2]; exact hcells)
theorem r_callS (hC : Cx g X cc own nL rm) {As rest : List Value} (hM : Ct g (xL X) y bc nc ret rc As M Post) (hcode : Cond.code y bc nc ret ∈ tb) (hini : Cond.initialized y.cls ∈ tb) (hlink : Cond.methodLink own ix y ∈ tb) (hstat : Cond.static y ∈ tb) (hy : yOk y n) (hroom : rc.frames + 1 ≤ rm.frames ∧ 8 + (nc + 11) + rc.locals ≤ rm.locals) (hn : As.length = n) (hst : st = As.reverse ++ rest) (hsum : (rest.map fun v => v.category).sum ≤ 8) (hcells : cn + rc.cells ≤ rm.cells ∧ sn + rc.slots ≤ rm.slots) (hd : decode cc pc = .ok (.invokestatic ix, 3))
    (kk : ∀ v M', Post v M' → P g X nL (pc + 3) lv (v.toList ++ rest) (cn + rc.cells) (sn + rc.slots) M') : P g X nL pc lv st cn sn M := by
  refine P_run (av := As.toArray) (fun H locs ls hw hS hl => ?_) kk
  exact va_runS (As := As) (rest := rest) ⟨hC.1, hC.2.1, hC.2.2.1, hC.2.2.2.1, hC.2.2.2.2.1⟩ (hM H.size) ⟨cB hC hcode hini hlink hy hroom, hC.2.2.2.2.1 _ hstat⟩ ⟨blind, fun U hU hW => ⟨rfl, by rw [hU], Wd_at hC hw hS hU hW⟩⟩ rfl hn hl.1 hst (lv_room (rest := st) hsum) hd (by rw [hC.2.2.2.2.2.2.2.2]; exact hcells)
theorem cN (hC : Cx g X cc own nL rm) {host : String} (hcode : Cond.code y bc nc ret ∈ tb) (hini : Cond.initialized y.cls ∈ tb) (hlink : (own, ix, y, host) ∈ nestM) (hy : yOk y n) (hroom : rc.frames + 1 ≤ rm.frames ∧ 8 + (nc + 11) + rc.locals ≤ rm.locals) :
    va_CN (xR X) (xS X) (xA X) own ix y host bc nc ret (.code y bc nc ret :: tb) rc rc.cells rc.slots n :=
  va_cnB n hC.2.2.2.2.1 (goodT hcode) rfl rfl rfl (hC.2.2.2.2.2.2.2.1.2.2.1 _ hlink) (hC.2.2.2.2.1 _ hini) hy (by rw [hC.2.2.2.2.2.2.2.2]; exact hroom)
theorem r_callSN (hC : Cx g X cc own nL rm) {host : String} {As rest : List Value} (hM : Ct g (xL X) y bc nc ret rc As M Post) (hcode : Cond.code y bc nc ret ∈ tb) (hini : Cond.initialized y.cls ∈ tb) (hlink : (own, ix, y, host) ∈ nestM) (hstat : Cond.static y ∈ tb) (hy : yOk y n) (hroom : rc.frames + 1 ≤ rm.frames ∧ 8 + (nc + 11) + rc.locals ≤ rm.locals) (hn : As.length = n) (hst : st = As.reverse ++ rest) (hsum : (rest.map fun v => v.category).sum ≤ 8) (hcells : cn + rc.cells ≤ rm.cells ∧ sn + rc.slots ≤ rm.slots) (hd : decode cc pc = .ok (.invokestatic ix, 3))
    (kk : ∀ v M', Post v M' → P g X nL (pc + 3) lv (v.toList ++ rest) (cn + rc.cells) (sn + rc.slots) M') : P g X nL pc lv st cn sn M := by
  refine P_run (av := As.toArray) (fun H locs ls hw hS hl => ?_) kk
  exact va_runSN (As := As) (rest := rest) ⟨hC.1, hC.2.1, hC.2.2.1, hC.2.2.2.1, hC.2.2.2.2.1⟩ (hM H.size) ⟨cN hC hcode hini hlink hy hroom, hC.2.2.2.2.1 _ hstat, trivial⟩ ⟨blind, fun U hU hW => ⟨rfl, by rw [hU], Wd_at hC hw hS hU hW⟩⟩ rfl hn hl.1 hst (lv_room (rest := st) hsum) hd (by rw [hC.2.2.2.2.2.2.2.2]; exact hcells)
theorem r_callI (hC : Cx g X cc own nL rm) {b : Nat} {As rest : List Value} (hM : Ct g (xL X) y bc nc none rc (.ref b :: As) M Post) (hcode : Cond.code y bc nc none ∈ tb) (hini : Cond.initialized y.cls ∈ tb) (hlink : Cond.methodLink own ix y ∈ tb) (hinst : Cond.instanceMethod y ∈ tb) (hnm : y.name = "<init>") (hy : yOk y n) (hroom : rc.frames + 1 ≤ rm.frames ∧ 8 + (nc + 11) + rc.locals ≤ rm.locals) (hn : As.length = n) (hst : st = As.reverse ++ .ref b :: rest) (hsum : (rest.map fun v => v.category).sum ≤ 8) (hcells : cn + rc.cells ≤ rm.cells ∧ sn + rc.slots ≤ rm.slots) (hd : decode cc pc = .ok (.invokespecial ix, 3))
    (kk : ∀ v M', Post v M' → P g X nL (pc + 3) lv (v.toList ++ rest) (cn + rc.cells) (sn + rc.slots) M') : P g X nL pc lv st cn sn M := by
  refine P_run (av := (Value.ref b :: As).toArray) (fun H locs ls hw hS hl => ?_) kk
  exact va_runI (As := As) (rest := rest) ⟨hC.1, hC.2.1, hC.2.2.1, hC.2.2.2.1, hC.2.2.2.2.1⟩ (hM H.size) ⟨cB hC hcode hini hlink hy hroom, hnm, hC.2.2.2.2.1 _ hinst⟩ ⟨blind, fun U hU hW => ⟨rfl, by rw [hU], Wd_at hC hw hS hU hW⟩⟩ rfl hn hl.1 hst (lv_room (rest := st) hsum) hd (by rw [hC.2.2.2.2.2.2.2.2]; exact hcells)
theorem r_callIN (hC : Cx g X cc own nL rm) {b : Nat} {host : String} {As rest : List Value} (hM : Ct g (xL X) y bc nc none rc (.ref b :: As) M Post) (hcode : Cond.code y bc nc none ∈ tb) (hini : Cond.initialized y.cls ∈ tb) (hlink : (own, ix, y, host) ∈ nestM) (hinst : Cond.instanceMethod y ∈ tb) (hnm : y.name = "<init>") (hy : yOk y n) (hroom : rc.frames + 1 ≤ rm.frames ∧ 8 + (nc + 11) + rc.locals ≤ rm.locals) (hn : As.length = n) (hst : st = As.reverse ++ .ref b :: rest) (hsum : (rest.map fun v => v.category).sum ≤ 8) (hcells : cn + rc.cells ≤ rm.cells ∧ sn + rc.slots ≤ rm.slots) (hd : decode cc pc = .ok (.invokespecial ix, 3))
    (kk : ∀ v M', Post v M' → P g X nL (pc + 3) lv (v.toList ++ rest) (cn + rc.cells) (sn + rc.slots) M') : P g X nL pc lv st cn sn M := by
  refine P_run (av := (Value.ref b :: As).toArray) (fun H locs ls hw hS hl => ?_) kk
  exact va_runIN (As := As) (rest := rest) ⟨hC.1, hC.2.1, hC.2.2.1, hC.2.2.2.1, hC.2.2.2.2.1⟩ (hM H.size) ⟨cN hC hcode hini hlink hy hroom, hnm, hC.2.2.2.2.1 _ hinst⟩ ⟨blind, fun U hU hW => ⟨rfl, by rw [hU], Wd_at hC hw hS hU hW⟩⟩ rfl hn hl.1 hst (lv_room (rest := st) hsum) hd (by rw [hC.2.2.2.2.2.2.2.2]; exact hcells)
theorem r_objInit (hC : Cx g X cc own nL rm) {a : Nat} (hlink : Cond.methodLink own ix Lib.objectInit ∈ tb) (hinst : Cond.instanceMethod Lib.objectInit ∈ tb) (hcode : Cond.code Lib.objectInit ⟨#[0xb1]⟩ 1 none ∈ tb) (hd : decode cc pc = .ok (.invokespecial ix, 3)) (hf : 1 ≤ rm.frames) (hlo : (st.map fun v => v.category).sum + 12 ≤ rm.locals)
    (kk : P g X nL (pc + 3) lv st cn sn M) : P g X nL pc lv (.ref a :: st) cn sn M := by
  intro H locs ls hw hS hl
  refine W.objInit hC.1 hC.2.1 hC.2.2.2.1 (hC.2.2.2.2.1 _ hlink) (hC.2.2.2.2.1 _ hinst) (hC.2.2.2.2.1 _ hcode) rfl (hl.1.trans hC.2.2.1.symm) rfl hd (by rw [hC.2.2.2.2.2.2.2.2]; exact hf) ?_ (kk H locs ls hw hS hl)
  rw [hC.2.2.2.2.2.2.2.2]
  show 2 * 0 + _ + 12 ≤ _
  omega
end CALL
section INTRO
variable {g : GG} {l : Launch} {y : MethodName} {cc : ByteArray} {nL : Nat} {rm : Room} {av : List Value} {M0 : MM} {Post : Option Value → MM → Prop}
theorem Ct_intro {ret : Option FieldType} (hy : plainName y.cls = true) (hlen : (lg_sl av).length ≤ nL)
    (body : ∀ X : XT, Cx g X cc y.cls nL rm → xL X = l → xK X = M0.1 → (xT X).name = y.name → (xT X).sig.returnType = ret → (xT X).locks = false → xQ X = MQ (xB X) (Qg g Post (Areg (xK X) (xS X).heap.size)) (xA X) (xS X) rm.cells rm.slots (Areg (xK X) (xS X).heap.size) → P g X nL 0 (lv_args 0 av) [] 0 0 M0) : Ct g l y cc nL ret rm av M0 Post := by
  intro sz
  refine Met.ofW (cc := cc) (maxL := nL) (ret := ret) hy rfl ?_
  intro p e s m args below meth c s₁ B hml hv
  obtain ⟨rfl, hsz, hW⟩ := hv
  subst hsz
  have hts := atoms_spec (ws := Cond.code y cc nL ret :: tb) B.pre
  have hl := lv_entry av (n := nL) hlen
  rw [lg_entry_eq]
  exact body (p, l, e, _, s, m, av.toArray, below, meth, c, _, M0.1) ⟨B.exec, B.bytes, hml, findClass_of_methodNamed B.named, fun w hw => hts w (List.mem_cons_of_mem _ hw), hW.2.1, hW.2.2.1, hW.2.2.2, rfl⟩ rfl rfl (name_of_methodNamed B.named B.method).1 B.returns B.notSynchronized rfl s.heap [] _ (hW.1.weaken (fun a ha => Or.inl ha)) va_S.rf hl
end INTRO
section RET
variable {g : GG} {X : XT} {cc : ByteArray} {own : String} {nL : Nat} {rm : Room} {pc : Nat} {lv : List (Nat × Value)} {cn sn : Nat} {M : MM} {Post : Option Value → MM → Prop}
abbrev Rq (g : GG) (X : XT) (rm : Room) (Post : Option Value → MM → Prop) : Prop := xQ X = MQ (xB X) (Qg g Post (Areg (xK X) (xS X).heap.size)) (xA X) (xS X) rm.cells rm.slots (Areg (xK X) (xS X).heap.size)
theorem q_of {H : Heap} {locs : List Loc} {v : Option Value} (hw : Wv g M (Areg (xK X) (xS X).heap.size) H) (hS : va_S (Areg (xK X) (xS X).heap.size) (xS X).heap H locs) (hp : Post v M) : ∀ t : State, t.heap = H → (xS X).WarmedH t.vm → Qg g Post (Areg (xK X) (xS X).heap.size) (xA X) (xS X) (.returned v) t := fun t ht _ => ⟨⟨v, M, rfl, hp, by rw [ht]; exact hw⟩, hS.F ht⟩
theorem r_iret (hC : Cx g X cc own nL rm) (hQ : Rq g X rm Post) (hlocks : (xT X).locks = false) {ty : FieldType} (hr : (xT X).sig.returnType = some ty) {v : Int32} (hn : narrow ty (.int v) = .int v) (h1 : cn ≤ rm.cells) (h2 : sn ≤ rm.slots) (hd : decode cc pc = .ok (.ireturn, 1)) (hp : Post (some (.int v)) M) : P g X nL pc lv [.int v] cn sn M := by
  intro H locs ls hw hS hl
  refine W.widen h1 h2 ?_
  rw [hQ]
  exact W.zret hC.1 hC.2.1 hr hn (q_of hw hS hp) hS.2.2 hd hlocks
theorem r_vret (hC : Cx g X cc own nL rm) (hQ : Rq g X rm Post) (hlocks : (xT X).locks = false) (hr : (xT X).sig.returnType = none) (h1 : cn ≤ rm.cells) (h2 : sn ≤ rm.slots) (hd : decode cc pc = .ok (.return_, 1)) (hp : Post none M) : P g X nL pc lv [] cn sn M := by
  intro H locs ls hw hS hl
  refine W.widen h1 h2 ?_
  rw [hQ]
  exact W.vret hC.1 hC.2.1 hr (q_of hw hS hp) hS.2.2 hd hlocks
theorem r_lret (hC : Cx g X cc own nL rm) (hQ : Rq g X rm Post) (hlocks : (xT X).locks = false) (hr : (xT X).sig.returnType = some .long) {v : Int64} (h1 : cn ≤ rm.cells) (h2 : sn ≤ rm.slots) (hd : decode cc pc = .ok (.lreturn, 1)) (hp : Post (some (.long v)) M) : P g X nL pc lv [.long v] cn sn M := by
  intro H locs ls hw hS hl
  refine W.widen h1 h2 ?_
  rw [hQ]
  exact W.lret hC.1 hC.2.1 hr (q_of hw hS hp) hS.2.2 hd hlocks
theorem r_aret (hC : Cx g X cc own nL rm) (hQ : Rq g X rm Post) (hlocks : (xT X).locks = false) {nm : String} (hr : (xT X).sig.returnType = some (.object nm)) {a : Nat} (h1 : cn ≤ rm.cells) (h2 : sn ≤ rm.slots) (hd : decode cc pc = .ok (.areturn, 1)) (hp : Post (some (.ref a)) M) : P g X nL pc lv [.ref a] cn sn M := by
  intro H locs ls hw hS hl
  refine W.widen h1 h2 ?_
  rw [hQ]
  exact W.aret hC.1 hC.2.1 hr (Or.inl ⟨_, rfl⟩) (Or.inr ⟨_, rfl⟩) (q_of hw hS hp) hS.2.2 hd hlocks
end RET
