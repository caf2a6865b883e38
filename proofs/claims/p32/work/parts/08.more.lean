section ALLOC
variable {g : GG} {X : XT} {cc : ByteArray} {own : String} {nL : Nat} {rm : Room} {pc : Nat} {lv : List (Nat × Value)} {st : List Value} {cn sn : Nat} {K len : Nat → Nat} {I : Nat → Nat → Int32} {J : Nat → Nat → Int64} {R : Nat → Nat → Option Nat}
def z2 {α : Type} (f : Nat → Nat → α) (q : Nat) (v : α) : Nat → Nat → α := fun b j => if b = q then v else f b j
theorem z2_self {α : Type} (f : Nat → Nat → α) (q j : Nat) (v : α) : z2 f q v q j = v := by simp [z2]
theorem z2_ne {α : Type} (f : Nat → Nat → α) {q b : Nat} (j : Nat) (v : α) (h : b ≠ q) : z2 f q v b j = f b j := by simp [z2, h]
/-- a pool with one cell more -/
theorem Wv.push {M M' : MM} {A : Nat → Prop} {H1 : Heap} {L : List Nat} {q : Nat} {e : va_E} (hL : ∀ a, a ∈ L ↔ M.1 a ≠ 0) (hq : M.1 q = 0) (hq' : M'.1 q ≠ 0) (hK : ∀ b, b ≠ q → M'.1 b = M.1 b) (he : cellE g M' q = e) (ho : ∀ b, b ≠ q → cellE g M' b = cellE g M b) (hP1 : va_P g.1 vwCl (va_pl L (cellE g M) ++ [(q, e)]) H1) (hD1 : va_D A (va_pl L (cellE g M) ++ [(q, e)])) : Wv g M' A H1 := by
  have hn : q ∉ L := fun h => (hL q).mp h hq
  have e1 : va_pl L (cellE g M) ++ [(q, e)] = va_pl (L ++ [q]) (va_up (cellE g M) q e) := va_pl_push hn
  have e2 : va_pl (L ++ [q]) (va_up (cellE g M) q e) = va_pl (L ++ [q]) (cellE g M') := va_pl_congr (fun b => by
    by_cases hb : b = q
    · subst hb; rw [va_up_self, he]
    · rw [va_up_ne _ _ hb, ho b hb])
  rw [e1, e2] at hP1 hD1
  refine ⟨L ++ [q], fun b => ?_, hP1, hD1⟩
  by_cases hb : b = q
  · subst hb; simp [hq']
  · rw [hK b hb, List.mem_append, List.mem_singleton, hL b]
    exact ⟨fun h => h.elim id (fun e => absurd e hb), Or.inl⟩
theorem fresh {M : MM} {A : Nat → Prop} {L : List Nat} {q : Nat} {e : va_E} (hL : ∀ a, a ∈ L ↔ M.1 a ≠ 0) (hD1 : va_D A (va_pl L (cellE g M) ++ [(q, e)])) : M.1 q = 0 := by
  apply Classical.byContradiction
  intro h
  obtain ⟨k, hk⟩ := va_pl_get (X := []) (f := cellE g M) ((hL q).mpr h)
  rw [List.nil_append] at hk
  have hlt := (List.getElem?_eq_some_iff.mp hk).1
  have h1 : (va_pl L (cellE g M) ++ [(q, e)])[k]? = some (q, cellE g M q) := by rw [List.getElem?_append_left hlt]; exact hk
  have h2 : (va_pl L (cellE g M) ++ [(q, e)])[(va_pl L (cellE g M)).length]? = some (q, e) := by simp
  have := hD1.1 _ _ _ _ h1 h2 rfl
  omega
def dfl (ci j : Nat) : Value := match (fk ci)[j]? with
  | some 0 => .int 0
  | some 1 => .long 0
  | _ => .null
theorem r_new (hC : Cx g X cc own nL rm) {ix ci N : Nat} {C : String} {T : u_T} {ty : Nat → FieldType} (hcl : vwCl[ci]? = some (C, T, N)) (hin : ∀ w ∈ u_ws C T N, w ∈ tb) (hty : ∀ k, k < N → parseFieldDescriptor (T k).2.2.1 = some (ty k)) (hdf : ∀ j, j < N → defaultValue (ty j) = dfl ci j) (hlk : Cond.classLink own ix C ∈ tb) (hinst : Cond.instantiable C N ∈ tb) (hini : Cond.initialized C ∈ tb) (hci : kO (21 + ci) = some ci) (hcells : cn + 1 ≤ rm.cells) (hslots : sn + N ≤ rm.slots) (hd : decode cc pc = .ok (.new ix, 3))
    (k : ∀ q, K q = 0 → P g X nL (pc + 3) lv (.ref q :: st) (cn + 1) (sn + N) (va_up K q (21 + ci), len, z2 I q 0, z2 J q 0, z2 R q none)) : P g X nL pc lv st cn sn (K, len, I, J, R) := by
  intro H locs ls hw hS hl
  obtain ⟨L, hL, hP, hD⟩ := hw
  have hA : ∀ q, (xS X).heap.size ≤ q → Areg (xK X) (xS X).heap.size q := fun q h => Or.inr h
  have hfs : ∀ q j, j < N → defaultValue (ty j) = vp_V (flds ci (va_up K q (21 + ci), len, z2 I q 0, z2 J q 0, z2 R q none) q) j := by
    intro q j hj
    rw [hdf j hj]
    unfold vp_V dfl
    rw [List.getD_eq_getElem?_getD]
    cases h : (fk ci)[j]? with
    | none => simp [flds, h]
    | some t =>
      rw [flds_get h]
      match t with
      | 0 => simp [fvv, z2]
      | 1 => simp [fvv, z2]
      | t + 2 => simp [fvv, z2, va_rf]
  have e0 : ∀ q, flds ci (va_up K q (21 + ci), len, z2 I q 0, z2 J q 0, z2 R q none) q = (fk ci).mapIdx (fun k t => fvv t (va_up K 0 0, len, fun _ _ => 0, fun _ _ => 0, fun _ _ => none) 0 k) := by
    intro q
    unfold flds
    congr 1
    funext j t
    simp [fvv, z2]
  refine va_new hC.1 hC.2.1 hC.2.2.2.2.1 hin ty hty hC.2.2.2.1 (hC.2.2.2.2.1 _ hlk) (hC.2.2.2.2.1 _ hinst) (hC.2.2.2.2.1 _ hini) hC.2.2.2.2.2.1 hP hD hS hA hcl (fs := (fk ci).mapIdx (fun k t => fvv t (va_up K 0 0, len, fun _ _ => 0, fun _ _ => 0, fun _ _ => none) 0 k)) (fun j hj => by rw [← e0 0]; exact hfs 0 j hj) (by rw [hC.2.2.2.2.2.2.2.2]; exact hcells) (by rw [hC.2.2.2.2.2.2.2.2]; exact hslots) hd (fun q H1 hP1 hD1 hS1 => ?_)
  have hq := fresh hL hD1
  refine k q hq H1 locs ls (Wv.push hL hq ?_ ?_ ?_ ?_ hP1 hD1) hS1 hl
  · show va_up K q (21 + ci) q ≠ 0
    rw [va_up_self]; omega
  · intro b hb; exact va_up_ne _ _ hb
  · rw [cellE_obj (ci := ci) (by show kO (va_up K q (21 + ci) q) = _; rw [va_up_self]; exact hci), e0 q]
  · intro b hb
    exact cellE_same (va_up_ne _ _ hb) rfl (by funext j; exact z2_ne _ _ _ hb) (by funext j; exact z2_ne _ _ _ hb) (by funext j; exact z2_ne _ _ _ hb)
theorem r_seal {q ci : Nat} (hq : K q = 21 + ci) (h1 : kO (21 + ci) = some ci) (h2 : kO (1 + ci) = some ci)
    (k : P g X nL pc lv st cn sn (va_up K q (1 + ci), len, I, J, R)) : P g X nL pc lv st cn sn (K, len, I, J, R) := by
  intro H locs ls hw hS hl
  refine k H locs ls ?_ hS hl
  obtain ⟨L, hL, hP, hD⟩ := hw
  have e : va_pl L (cellE g (K, len, I, J, R)) = va_pl L (cellE g (va_up K q (1 + ci), len, I, J, R)) := va_pl_congr (fun b => by
    by_cases hb : b = q
    · subst hb
      rw [cellE_obj (ci := ci) (by show kO (K b) = _; rw [hq]; exact h1), cellE_obj (ci := ci) (by show kO (va_up K b (1 + ci) b) = _; rw [va_up_self]; exact h2)]
      rfl
    · exact (cellE_same (M := (K, len, I, J, R)) (M' := (va_up K q (1 + ci), len, I, J, R)) (va_up_ne _ _ hb) rfl rfl rfl rfl).symm)
  rw [e] at hP hD
  refine ⟨L, fun b => ?_, hP, hD⟩
  rw [hL b]
  show K b ≠ 0 ↔ va_up K q (1 + ci) b ≠ 0
  by_cases hb : b = q
  · subst hb; rw [hq, va_up_self]; omega
  · rw [va_up_ne _ _ hb]
theorem r_newarray (hC : Cx g X cc own nL rm) {kd t : Nat} {atype : ArrayType} {ty : FieldType} {n : Int32} {N : Nat} (hty : newarray.typeOf atype = ty) (hm : Cond.arrayClass ty ∈ tb) (htt : (tys g)[t]? = some (g.2.1 t, ty)) (hO : kO kd = none) (hA : kA kd = t) (h0 : kd ≠ 0) (hra : ∀ cA, va_RA (xS X) cA ty → (xS X).vm.findClass ("[" ++ ty.toString) = some cA) (a0 : vp_A) (ha0 : a0 = (N, arE t (K, len, fun _ _ => 0, fun _ _ => 0, fun _ _ => none) 0)) (ha : ∀ cA : ClassId, vp_cell cA a0 = arrV cA N (fun _ => defaultValue ty)) (hn : ¬ n < 0) (hN : n.toNatClampNeg = N) (hbytes : N * componentBytes ty ≤ 536870912) (hcells : cn + 1 ≤ rm.cells) (hslots : sn + N ≤ rm.slots) (hd : decode cc pc = .ok (.newarray atype, 2))
    (k : ∀ q, K q = 0 → P g X nL (pc + 2) lv (.ref q :: st) (cn + 1) (sn + N) (va_up K q kd, va_up len q N, z2 I q 0, z2 J q 0, z2 R q none)) : P g X nL pc lv (.int n :: st) cn sn (K, len, I, J, R) := by
  intro H locs ls hw hS hl
  obtain ⟨L, hL, hP, hD⟩ := hw
  have hAr : ∀ q, (xS X).heap.size ≤ q → Areg (xK X) (xS X).heap.size q := fun q h => Or.inr h
  refine va_newa hC.1 hC.2.1 (by rw [hty]; exact hC.2.2.2.2.1 _ hm) hty hC.2.2.2.2.2.1 hP hD hS hAr ha hn hN hbytes (by rw [hC.2.2.2.2.2.2.2.2]; exact hcells) (by rw [hC.2.2.2.2.2.2.2.2]; exact hslots) hd (fun q cA H1 hK1 hP1 hD1 hS1 => ?_)
  have hcA : cA = g.2.1 t := by
    have h1 := hra _ (hC.2.2.2.2.2.1.2 t _ htt).2
    have h2 := hra cA (hK1.2 (tys g).length (cA, ty) (by simp)).2
    rw [h1] at h2
    exact (Option.some.inj h2).symm
  subst hcA
  have hq := fresh hL hD1
  refine k q hq H1 locs ls (Wv.push hL hq ?_ ?_ ?_ ?_ hP1 hD1) hS1 hl
  · show va_up K q kd q ≠ 0
    rw [va_up_self]; exact h0
  · intro b hb; exact va_up_ne _ _ hb
  · rw [cellE_arr (by show kO (va_up K q kd q) = none; rw [va_up_self]; exact hO)]
    show Sum.inl (g.2.1 (kA (va_up K q kd q)), va_up len q N q, arE (kA (va_up K q kd q)) _ q) = _
    rw [va_up_self, va_up_self, hA, ha0]
    congr 3
    unfold arE
    split
    · congr 2; funext j; exact z2_self _ _ _ _
    · split
      · congr 5; funext j; exact z2_self _ _ _ _
      · congr 1; funext j; exact z2_self _ _ _ _
  · intro b hb
    exact cellE_same (va_up_ne _ _ hb) (va_up_ne _ _ hb) (by funext j; exact z2_ne _ _ _ hb) (by funext j; exact z2_ne _ _ _ hb) (by funext j; exact z2_ne _ _ _ hb)
theorem r_anewarray (hC : Cx g X cc own nL rm) {kd t ix : Nat} {C : String} {n : Int32} {N : Nat} (hlk : Cond.classLink own ix C ∈ tb) (hao : va_AO C (xS X)) (htt : (tys g)[t]? = some (g.2.1 t, .object C)) (hO : kO kd = none) (hA : kA kd = t) (h45 : t = 4 ∨ t = 5) (h0 : kd ≠ 0) (hn : ¬ n < 0) (hN : n.toNatClampNeg = N) (hbytes : N * 4 ≤ 536870912) (hcells : cn + 1 ≤ rm.cells) (hslots : sn + N ≤ rm.slots) (hd : decode cc pc = .ok (.anewarray ix, 3))
    (k : ∀ q, K q = 0 → P g X nL (pc + 3) lv (.ref q :: st) (cn + 1) (sn + N) (va_up K q kd, va_up len q N, z2 I q 0, z2 J q 0, z2 R q none)) : P g X nL pc lv (.int n :: st) cn sn (K, len, I, J, R) := by
  intro H locs ls hw hS hl
  obtain ⟨L, hL, hP, hD⟩ := hw
  have hAr : ∀ q, (xS X).heap.size ≤ q → Areg (xK X) (xS X).heap.size q := fun q h => Or.inr h
  refine va_newq hC.1 hC.2.1 hC.2.2.2.1 (hC.2.2.2.2.1 _ hlk) hao hC.2.2.2.2.2.1 hP hD hS hAr hn hN hbytes (by rw [hC.2.2.2.2.2.2.2.2]; exact hcells) (by rw [hC.2.2.2.2.2.2.2.2]; exact hslots) hd (fun q cA H1 hK1 hP1 hD1 hS1 => ?_)
  have hcA : cA = g.2.1 t := by
    obtain ⟨_, _, -, -, -, h1⟩ := (hC.2.2.2.2.2.1.2 t _ htt).2
    obtain ⟨_, _, -, -, -, h2⟩ := (hK1.2 (tys g).length (cA, .object C) (by simp)).2
    rw [h1] at h2
    exact (Option.some.inj h2).symm
  subst hcA
  have hq := fresh hL hD1
  refine k q hq H1 locs ls (Wv.push hL hq ?_ ?_ ?_ ?_ hP1 hD1) hS1 hl
  · show va_up K q kd q ≠ 0
    rw [va_up_self]; exact h0
  · intro b hb; exact va_up_ne _ _ hb
  · rw [cellE_arr (by show kO (va_up K q kd q) = none; rw [va_up_self]; exact hO)]
    show Sum.inl (g.2.1 (kA (va_up K q kd q)), va_up len q N q, arE (kA (va_up K q kd q)) _ q) = _
    rw [va_up_self, va_up_self, hA]
    have e : (z2 R q none) q = fun _ => none := by funext j; exact z2_self _ _ _ _
    rcases h45 with rfl | rfl <;> simp [arE, e]
  · intro b hb
    exact cellE_same (va_up_ne _ _ hb) (va_up_ne _ _ hb) (by funext j; exact z2_ne _ _ _ hb) (by funext j; exact z2_ne _ _ _ hb) (by funext j; exact z2_ne _ _ _ hb)
end ALLOC
section TXT
variable {g : GG} {X : XT} {cc : ByteArray} {own : String} {nL : Nat} {rm : Room} {pc : Nat} {lv : List (Nat × Value)} {st : List Value} {cn sn : Nat} {M : MM}
theorem r_getsC (hC : Cx g X cc own nL rm) {ix : Nat} (hlk : Cond.fieldLink own ix "java/lang/String" "COMPACT_STRINGS" "Z" ∈ tb) (hd : decode cc pc = .ok (.getstatic ix, 3)) (k : P g X nL (pc + 3) lv (.int 1 :: st) cn sn M) : P g X nL pc lv st cn sn M :=
  fun H locs ls hw hS hl => va_gets hC.1 hC.2.1 hC.2.2.2.2.2.2.1.2.1 hS hC.2.2.2.1 (hC.2.2.2.2.1 _ hlk) (fun x h => h) hd (k H locs ls hw hS hl)
theorem r_getCoder (hC : Cx g X cc own nL rm) {ix i : Nat} (hi : i < 60) (hlk : Cond.fieldLink own ix "java/lang/String" "coder" "B" ∈ tb) (hd : decode cc pc = .ok (.getfield ix, 3)) (k : P g X nL (pc + 3) lv (.int 0 :: st) cn sn M) : P g X nL pc lv (.ref (g.2.2.1 i) :: st) cn sn M :=
  fun H locs ls hw hS hl => vk_getf hC.1 hC.2.1 (hC.2.2.2.2.2.2.1.1 i hi).2.1 hS hC.2.2.2.1 (hC.2.2.2.2.1 _ hlk) (fun x h => h) hd (k H locs ls hw hS hl)
theorem r_getValue (hC : Cx g X cc own nL rm) {ix i : Nat} (hi : i < 60) (hlk : Cond.fieldLink own ix "java/lang/String" "value" "[B" ∈ tb) (hd : decode cc pc = .ok (.getfield ix, 3)) (k : P g X nL (pc + 3) lv (.ref (g.2.2.2 i) :: st) cn sn M) : P g X nL pc lv (.ref (g.2.2.1 i) :: st) cn sn M :=
  fun H locs ls hw hS hl => vk_getf hC.1 hC.2.1 (hC.2.2.2.2.2.2.1.1 i hi).2.2.1 hS hC.2.2.2.1 (hC.2.2.2.2.1 _ hlk) (fun x h => h) hd (k H locs ls hw hS hl)
theorem r_txtLen (hC : Cx g X cc own nL rm) {i : Nat} (hi : i < 60) (hd : decode cc pc = .ok (.arraylength, 1)) (k : P g X nL (pc + 1) lv (.int (Int32.ofNat (sLen i)) :: st) cn sn M) : P g X nL pc lv (.ref (g.2.2.2 i) :: st) cn sn M :=
  fun H locs ls hw hS hl => va_tlen hC.1 hC.2.1 (hC.2.2.2.2.2.2.1.1 i hi).2.2.2 hS rfl hd (k H locs ls hw hS hl)
theorem r_txtAt (hC : Cx g X cc own nL rm) {i : Nat} {j : Int32} (hi : i < 60) (h1 : 0 ≤ j.toInt) (h2 : j.toInt < sLen i) (hd : decode cc pc = .ok (.baload, 1)) (k : P g X nL (pc + 1) lv (.int ((sB.getD i []).getD j.toNatClampNeg 0) :: st) cn sn M) : P g X nL pc lv (.int j :: .ref (g.2.2.2 i) :: st) cn sn M :=
  fun H locs ls hw hS hl => va_tb hC.1 hC.2.1 (hC.2.2.2.2.2.2.1.1 i hi).2.2.2 hS (vin h1 h2) rfl hd (k H locs ls hw hS hl)
variable {y : MethodName} {bc : ByteArray} {nc : Nat} {ret : Option FieldType} {rc : Room} {ix n : Nat} {Post : Option Value → MM → Prop}
theorem r_callT (hC : Cx g X cc own nL rm) {i : Nat} {As rest : List Value} (hi : i < 60) (hM : Ct g (xL X) y bc nc ret rc (.ref (g.2.2.1 i) :: As) M Post) (hcode : Cond.code y bc nc ret ∈ tb) (hini : Cond.initialized y.cls ∈ tb) (hlink : Cond.methodLink own ix y ∈ tb) (hinst : Cond.instanceMethod y ∈ tb) (hsel : Cond.selects "java/lang/String" y y ∈ tb) (hy : yOk y n) (hroom : rc.frames + 1 ≤ rm.frames ∧ 8 + (nc + 11) + rc.locals ≤ rm.locals) (hn : As.length = n) (hst : st = As.reverse ++ .ref (g.2.2.1 i) :: rest) (hsum : (rest.map fun v => v.category).sum ≤ 8) (hcells : cn + rc.cells ≤ rm.cells ∧ sn + rc.slots ≤ rm.slots) (hd : decode cc pc = .ok (.invokevirtual ix, 3))
    (kk : ∀ v M', Post v M' → P g X nL (pc + 3) lv (v.toList ++ rest) (cn + rc.cells) (sn + rc.slots) M') : P g X nL pc lv st cn sn M := by
  refine P_run (av := (Value.ref (g.2.2.1 i) :: As).toArray) (fun H locs ls hw hS hl => ?_) kk
  have hrecv : ∃ cellB : Cell, H[g.2.2.1 i]? = some cellB ∧ cellB.vm.isStatics = false ∧ (xS X).vm.findClass "java/lang/String" = some cellB.cls := by
    obtain ⟨cell, h1, h2, h3, -⟩ := (hC.2.2.2.2.2.2.1.1 i hi).1.kept hS.2.1
    exact ⟨cell, h1, h2, h3⟩
  exact va_runV (As := As) (rest := rest) ⟨hC.1, hC.2.1, hC.2.2.1, hC.2.2.2.1, hC.2.2.2.2.1⟩ (hM H.size) ⟨cB hC hcode hini hlink hy hroom, hC.2.2.2.2.1 _ hinst, hC.2.2.2.2.1 _ hsel⟩ ⟨blind, hrecv, fun U hU hW => ⟨rfl, by rw [hU], Wd_at hC hw hS hU hW⟩⟩ rfl hn hl.1 hst (lv_room (rest := st) hsum) hd (by rw [hC.2.2.2.2.2.2.2.2]; exact hcells)
end TXT
def pI0 (M : MM) (Q : Int32 → Prop) : Option Value → MM → Prop := fun v M' => ∃ r : Int32, v = some (.int r) ∧ M' = M ∧ Q r
def pI1 (M : MM) (Q : Int32 → (Nat → Nat → Int32) → Prop) : Option Value → MM → Prop := fun v M' => ∃ (r : Int32) (I' : Nat → Nat → Int32), v = some (.int r) ∧ M' = (M.1, M.2.1, I', M.2.2.2.1, M.2.2.2.2) ∧ Q r I'
def pI2 (M : MM) (Q : Int32 → (Nat → Nat → Int32) → (Nat → Nat → Int64) → Prop) : Option Value → MM → Prop := fun v M' => ∃ (r : Int32) (I' : Nat → Nat → Int32) (J' : Nat → Nat → Int64), v = some (.int r) ∧ M' = (M.1, M.2.1, I', J', M.2.2.2.2) ∧ Q r I' J'
def pI5 (Q : Int32 → MM → Prop) : Option Value → MM → Prop := fun v M' => ∃ r : Int32, v = some (.int r) ∧ Q r M'
def pV1 (M : MM) (Q : (Nat → Nat → Int32) → Prop) : Option Value → MM → Prop := fun v M' => ∃ I' : Nat → Nat → Int32, v = none ∧ M' = (M.1, M.2.1, I', M.2.2.2.1, M.2.2.2.2) ∧ Q I'
def pV2 (M : MM) (Q : (Nat → Nat → Int32) → (Nat → Nat → Int64) → Prop) : Option Value → MM → Prop := fun v M' => ∃ (I' : Nat → Nat → Int32) (J' : Nat → Nat → Int64), v = none ∧ M' = (M.1, M.2.1, I', J', M.2.2.2.2) ∧ Q I' J'
def pV5 (Q : MM → Prop) : Option Value → MM → Prop := fun v M' => v = none ∧ Q M'
def pL0 (M : MM) (Q : Int64 → Prop) : Option Value → MM → Prop := fun v M' => ∃ r : Int64, v = some (.long r) ∧ M' = M ∧ Q r
def pR1 (M : MM) (Q : Nat → (Nat → Nat → Int32) → Prop) : Option Value → MM → Prop := fun v M' => ∃ (r : Nat) (I' : Nat → Nat → Int32), v = some (.ref r) ∧ M' = (M.1, M.2.1, I', M.2.2.2.1, M.2.2.2.2) ∧ Q r I'
section ADAPT
variable {F : List Value → MM → Prop} {rest : List Value} {M : MM}
theorem aI0 {Q : Int32 → Prop} (k : ∀ r, Q r → F (.int r :: rest) M) : ∀ v M', pI0 M Q v M' → F (v.toList ++ rest) M' := by rintro v M' ⟨r, rfl, rfl, h⟩; exact k r h
theorem aI1 {Q : Int32 → (Nat → Nat → Int32) → Prop} (k : ∀ r I', Q r I' → F (.int r :: rest) (M.1, M.2.1, I', M.2.2.2.1, M.2.2.2.2)) : ∀ v M', pI1 M Q v M' → F (v.toList ++ rest) M' := by rintro v M' ⟨r, I', rfl, rfl, h⟩; exact k r I' h
theorem aI2 {Q : Int32 → (Nat → Nat → Int32) → (Nat → Nat → Int64) → Prop} (k : ∀ r I' J', Q r I' J' → F (.int r :: rest) (M.1, M.2.1, I', J', M.2.2.2.2)) : ∀ v M', pI2 M Q v M' → F (v.toList ++ rest) M' := by rintro v M' ⟨r, I', J', rfl, rfl, h⟩; exact k r I' J' h
theorem aI5 {Q : Int32 → MM → Prop} (k : ∀ r M', Q r M' → F (.int r :: rest) M') : ∀ v M', pI5 Q v M' → F (v.toList ++ rest) M' := by rintro v M' ⟨r, rfl, h⟩; exact k r M' h
theorem aV1 {Q : (Nat → Nat → Int32) → Prop} (k : ∀ I', Q I' → F rest (M.1, M.2.1, I', M.2.2.2.1, M.2.2.2.2)) : ∀ v M', pV1 M Q v M' → F (v.toList ++ rest) M' := by rintro v M' ⟨I', rfl, rfl, h⟩; exact k I' h
theorem aV2 {Q : (Nat → Nat → Int32) → (Nat → Nat → Int64) → Prop} (k : ∀ I' J', Q I' J' → F rest (M.1, M.2.1, I', J', M.2.2.2.2)) : ∀ v M', pV2 M Q v M' → F (v.toList ++ rest) M' := by rintro v M' ⟨I', J', rfl, rfl, h⟩; exact k I' J' h
theorem aV5 {Q : MM → Prop} (k : ∀ M', Q M' → F rest M') : ∀ v M', pV5 Q v M' → F (v.toList ++ rest) M' := by rintro v M' ⟨rfl, h⟩; exact k M' h
theorem aL0 {Q : Int64 → Prop} (k : ∀ r, Q r → F (.long r :: rest) M) : ∀ v M', pL0 M Q v M' → F (v.toList ++ rest) M' := by rintro v M' ⟨r, rfl, rfl, h⟩; exact k r h
theorem aR1 {Q : Nat → (Nat → Nat → Int32) → Prop} (k : ∀ r I', Q r I' → F (.ref r :: rest) (M.1, M.2.1, I', M.2.2.2.1, M.2.2.2.2)) : ∀ v M', pR1 M Q v M' → F (v.toList ++ rest) M' := by rintro v M' ⟨r, I', rfl, rfl, h⟩; exact k r I' h
end ADAPT
def inS (l : List (Nat × Nat)) (q k : Nat) : Bool := l.any (fun e => (e.1 == q || (e.1 == 1000 && Nat.ble 1000 q)) && (e.2 == k || e.2 == 999))
def subS (l m : List (Nat × Nat)) : Bool := l.all (fun e => m.any (fun f => f.1 == e.1 && (f.2 == e.2 || f.2 == 999)))
theorem subS_in {l m : List (Nat × Nat)} (h : subS l m = true) {q k : Nat} (hq : inS m q k = false) : inS l q k = false := by
  apply Classical.byContradiction
  intro hn
  have hn : inS l q k = true := by revert hn; cases inS l q k <;> simp
  obtain ⟨e, he, h1⟩ := List.any_eq_true.mp hn
  obtain ⟨f, hf, h2⟩ := List.any_eq_true.mp (List.all_eq_true.mp h e he)
  have : inS m q k = true := by
    refine List.any_eq_true.mpr ⟨f, hf, ?_⟩
    simp only [Bool.and_eq_true, Bool.or_eq_true, beq_iff_eq] at h1 h2 ⊢
    obtain ⟨a, b⟩ := h1
    obtain ⟨c, d⟩ := h2
    refine ⟨a.elim (fun a => Or.inl (c.trans a)) (fun a => Or.inr ⟨c.trans a.1, a.2⟩), ?_⟩
    rcases d with d | d
    · rcases b with b | b
      · exact Or.inl (d.trans b)
      · exact Or.inr (d.trans b)
    · exact Or.inr d
  rw [this] at hq
  cases hq
def Fr {α : Type} (K : Nat → Nat) (l : List (Nat × Nat)) (I I' : Nat → Nat → α) : Prop := ∀ a k, inS l (K a) k = false → I' a k = I a k
theorem Fr.refl {α : Type} {K : Nat → Nat} {l : List (Nat × Nat)} {I : Nat → Nat → α} : Fr K l I I := fun _ _ _ => rfl
theorem Fr.trans {α : Type} {K : Nat → Nat} {l1 l2 l : List (Nat × Nat)} {I I1 I2 : Nat → Nat → α} (h1 : Fr K l1 I I1) (h2 : Fr K l2 I1 I2) (s1 : subS l1 l = true) (s2 : subS l2 l = true) : Fr K l I I2 := fun a k h => (h2 a k (subS_in s2 h)).trans (h1 a k (subS_in s1 h))
theorem Fr.mono {α : Type} {K : Nat → Nat} {l1 l : List (Nat × Nat)} {I I1 : Nat → Nat → α} (h1 : Fr K l1 I I1) (s1 : subS l1 l = true) : Fr K l I I1 := fun a k h => h1 a k (subS_in s1 h)
theorem Fr.put {α : Type} {K : Nat → Nat} {l : List (Nat × Nat)} {I I1 I2 : Nat → Nat → α} {a k q : Nat} {v : α} (h : Fr K l I I1) (e : I2 = up2 I1 a k v) (hq : K a = q) (hin : inS l q k = true) : Fr K l I I2 := by
  intro b j hb
  rw [e, up2_ne _ _ ?_]
  · exact h b j hb
  · apply Classical.byContradiction
    intro hn
    have hba : b = a ∧ j = k := ⟨Classical.byContradiction fun h => hn (Or.inl h), Classical.byContradiction fun h => hn (Or.inr h)⟩
    rw [hba.1, hba.2, hq, hin] at hb
    cases hb
theorem Fr.get {α : Type} {K : Nat → Nat} {l : List (Nat × Nat)} {I I' : Nat → Nat → α} (h : Fr K l I I') {a k q : Nat} (hq : K a = q) (hin : inS l q k = false) : I' a k = I a k := h a k (by rw [hq]; exact hin)
theorem inS_arr {l : List (Nat × Nat)} {q : Nat} (h : l.any (fun e => e.1 == q && e.2 == 999) = true) (k : Nat) : inS l q k = true := by
  obtain ⟨e, he, h1⟩ := List.any_eq_true.mp h
  refine List.any_eq_true.mpr ⟨e, he, ?_⟩
  simp only [Bool.and_eq_true, Bool.or_eq_true, beq_iff_eq] at h1 ⊢
  exact ⟨Or.inl h1.1, Or.inr h1.2⟩
theorem inS_big {l : List (Nat × Nat)} {q : Nat} (h : l.any (fun e => e.1 == 1000 && e.2 == 999) = true) (hq : 1000 ≤ q) (k : Nat) : inS l q k = true := by
  obtain ⟨e, he, h1⟩ := List.any_eq_true.mp h
  refine List.any_eq_true.mpr ⟨e, he, ?_⟩
  simp only [Bool.and_eq_true, Bool.or_eq_true, beq_iff_eq] at h1 ⊢
  exact ⟨Or.inr ⟨h1.1, Nat.ble_eq.mpr hq⟩, Or.inr h1.2⟩

