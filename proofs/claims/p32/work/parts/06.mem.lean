section MEM
variable {g : GG} {X : XT} {cc : ByteArray} {own : String} {nL : Nat} {rm : Room} {pc : Nat} {lv : List (Nat × Value)} {st : List Value} {cn sn : Nat} {M : MM}
/-- a field's value comes to the stack -/
theorem r_get (hC : Cx g X cc own nL rm) {a ix ci k N : Nat} {C : String} {T : u_T} {v : Value} (hcl : vwCl[ci]? = some (C, T, N)) (hin : ∀ w ∈ u_ws C T N, w ∈ tb) (hk : k < N) (hl : Cond.fieldLink own ix (T k).1 (T k).2.1 (T k).2.2.1 ∈ tb) (hd : decode cc pc = .ok (.getfield ix, 3)) (hO : kO (M.1 a) = some ci) (hv : (flds ci M a)[k]? = some v)
    (kk : P g X nL (pc + 3) lv (v :: st) cn sn M) : P g X nL pc lv (.ref a :: st) cn sn M := by
  intro H locs ls hw hS hl'
  obtain ⟨L, q, hL, hP, hD, hq⟩ := hw.at (kO_ne hO)
  rw [cellE_obj hO] at hq
  exact va_get hC.1 hC.2.1 hC.2.2.2.2.1 hin hC.2.2.2.1 hC.2.2.2.2.2.1 hP q hq hcl k hk (hC.2.2.2.2.1 _ hl) (fun x h => h) hv hd (kk H locs ls hw hS hl')
theorem r_getN (hC : Cx g X cc own nL rm) {a ix ci k N : Nat} {C : String} {T : u_T} {v : Value} {host : String} (hcl : vwCl[ci]? = some (C, T, N)) (hin : ∀ w ∈ u_ws C T N, w ∈ tb) (hk : k < N) (hl : (own, ix, (T k).1, (T k).2.1, (T k).2.2.1, host) ∈ nestF) (hd : decode cc pc = .ok (.getfield ix, 3)) (hO : kO (M.1 a) = some ci) (hv : (flds ci M a)[k]? = some v)
    (kk : P g X nL (pc + 3) lv (v :: st) cn sn M) : P g X nL pc lv (.ref a :: st) cn sn M := by
  intro H locs ls hw hS hl'
  obtain ⟨L, q, hL, hP, hD, hq⟩ := hw.at (kO_ne hO)
  rw [cellE_obj hO] at hq
  exact va_getN hC.1 hC.2.1 hC.2.2.2.2.1 hin hC.2.2.2.1 hC.2.2.2.2.2.1 hP q hq hcl k hk (va_Nw.use rfl (hC.2.2.2.2.2.2.2.1.2.1 _ hl)) (fun x h => h) hv hd (kk H locs ls hw hS hl')
/-- what the pool is behind a store of a field: M', that differs from M in the cell a alone -/
def PutOk (g : GG) (M M' : MM) (a ci k : Nat) (v : Value) : Prop := M'.1 = M.1 ∧ flds ci M' a = (flds ci M a).set k v ∧ ∀ b, b ≠ a → cellE g M' b = cellE g M b
theorem r_put (hC : Cx g X cc own nL rm) {M' : MM} {a ix ci k N : Nat} {C : String} {T : u_T} {v : Value} {ty0 : Nat → FieldType} (hcl : vwCl[ci]? = some (C, T, N)) (hin : ∀ w ∈ u_ws C T N, w ∈ tb) (hty : ∀ k, k < N → parseFieldDescriptor (T k).2.2.1 = some (ty0 k)) (hnm : ∀ a, a < N → ∀ b, b < N → a ≠ b → (T a).2.1 ≠ (T b).2.1) (hk : k < N) (hl : Cond.fieldLink own ix (T k).1 (T k).2.1 (T k).2.2.1 ∈ tb) (hfin : (T k).2.2.2 = false) (hn : narrow (ty0 k) v = v) (hfit : fits (ty0 k) v = true) (hlen : k < (fk ci).length) (hd : decode cc pc = .ok (.putfield ix, 3)) (hO : kO (M.1 a) = some ci) (hM : PutOk g M M' a ci k v)
    (kk : P g X nL (pc + 3) lv st cn sn M') : P g X nL pc lv (v :: .ref a :: st) cn sn M := by
  intro H locs ls hw hS hl'
  obtain ⟨L, q, hL, hP, hD, hq⟩ := hw.at (kO_ne hO)
  have hq' := hq
  rw [cellE_obj hO] at hq'
  refine va_put hC.1 hC.2.1 hC.2.2.2.2.1 hin ty0 hty hnm hC.2.2.2.1 hC.2.2.2.2.2.1 hP hD hS q hq' hcl k hk (hC.2.2.2.2.1 _ hl) (fun x h => h) hfin (hty k hk) hn hfit (by rw [flds_len]; exact hlen) hd (fun H1 locs1 hP1 hD1 hS1 => kk H1 locs1 ls (Wv.set hL hD (kO_ne hO) hq hM.1 ?_ hM.2.2 hP1 hD1) hS1 hl')
  rw [cellE_obj (by rw [hM.1]; exact hO), hM.2.1]
theorem r_putN (hC : Cx g X cc own nL rm) {M' : MM} {a ix ci k N : Nat} {C : String} {T : u_T} {v : Value} {ty0 : Nat → FieldType} {host : String} (hcl : vwCl[ci]? = some (C, T, N)) (hin : ∀ w ∈ u_ws C T N, w ∈ tb) (hty : ∀ k, k < N → parseFieldDescriptor (T k).2.2.1 = some (ty0 k)) (hnm : ∀ a, a < N → ∀ b, b < N → a ≠ b → (T a).2.1 ≠ (T b).2.1) (hk : k < N) (hl : (own, ix, (T k).1, (T k).2.1, (T k).2.2.1, host) ∈ nestF) (hfin : (T k).2.2.2 = false) (hn : narrow (ty0 k) v = v) (hfit : fits (ty0 k) v = true) (hlen : k < (fk ci).length) (hd : decode cc pc = .ok (.putfield ix, 3)) (hO : kO (M.1 a) = some ci) (hM : PutOk g M M' a ci k v)
    (kk : P g X nL (pc + 3) lv st cn sn M') : P g X nL pc lv (v :: .ref a :: st) cn sn M := by
  intro H locs ls hw hS hl'
  obtain ⟨L, q, hL, hP, hD, hq⟩ := hw.at (kO_ne hO)
  have hq' := hq
  rw [cellE_obj hO] at hq'
  refine va_putN hC.1 hC.2.1 hC.2.2.2.2.1 hin ty0 hty hnm hC.2.2.2.1 hC.2.2.2.2.2.1 hP hD hS q hq' hcl k hk (va_Nw.use rfl (hC.2.2.2.2.2.2.2.1.2.1 _ hl)) (fun x h => h) hfin (hty k hk) hn hfit (by rw [flds_len]; exact hlen) hd (fun H1 locs1 hP1 hD1 hS1 => kk H1 locs1 ls (Wv.set hL hD (kO_ne hO) hq hM.1 ?_ hM.2.2 hP1 hD1) hS1 hl')
  rw [cellE_obj (by rw [hM.1]; exact hO), hM.2.1]
theorem r_putF (hC : Cx g X cc own nL rm) {M' : MM} {a ix ci k N : Nat} {C : String} {T : u_T} {v : Value} {ty0 : Nat → FieldType} (hinit : (xT X).name = "<init>") (hcl : vwCl[ci]? = some (C, T, N)) (hin : ∀ w ∈ u_ws C T N, w ∈ tb) (hty : ∀ k, k < N → parseFieldDescriptor (T k).2.2.1 = some (ty0 k)) (hnm : ∀ a, a < N → ∀ b, b < N → a ≠ b → (T a).2.1 ≠ (T b).2.1) (hk : k < N) (hl : Cond.fieldLink own ix (T k).1 (T k).2.1 (T k).2.2.1 ∈ tb) (hfin : (T k).2.2.2 = true) (hdecl : (T k).1 = own) (hn : narrow (ty0 k) v = v) (hfit : fits (ty0 k) v = true) (hlen : k < (fk ci).length) (hd : decode cc pc = .ok (.putfield ix, 3)) (hO : kO (M.1 a) = some ci) (hM : PutOk g M M' a ci k v)
    (kk : P g X nL (pc + 3) lv st cn sn M') : P g X nL pc lv (v :: .ref a :: st) cn sn M := by
  intro H locs ls hw hS hl'
  obtain ⟨L, q, hL, hP, hD, hq⟩ := hw.at (kO_ne hO)
  have hq' := hq
  rw [cellE_obj hO] at hq'
  refine va_putF hC.1 hC.2.1 hC.2.2.2.2.1 hin ty0 hty hnm hC.2.2.2.1 hC.2.2.2.2.2.1 hP hD hS q hq' hcl k hk (hC.2.2.2.2.1 _ hl) (fun x h => h) hfin hinit hdecl (hty k hk) hn hfit (by rw [flds_len]; exact hlen) hd (fun H1 locs1 hP1 hD1 hS1 => kk H1 locs1 ls (Wv.set hL hD (kO_ne hO) hq hM.1 ?_ hM.2.2 hP1 hD1) hS1 hl')
  rw [cellE_obj (by rw [hM.1]; exact hO), hM.2.1]
end MEM
section PUTOK
variable {g : GG} {K len : Nat → Nat} {I : Nat → Nat → Int32} {J : Nat → Nat → Int64} {R : Nat → Nat → Option Nat} {a ci k : Nat}
theorem flds_up {M M' : MM} {t : Nat} {v : Value} (h : (fk ci)[k]? = some t) (hv : fvv t M' a k = v) (ho : ∀ j t, j ≠ k → fvv t M' a j = fvv t M a j) : flds ci M' a = (flds ci M a).set k v := by
  apply List.ext_getElem?
  intro j
  by_cases hj : j = k
  · subst hj
    have hlt : j < (flds ci M a).length := by rw [flds_len]; exact (List.getElem?_eq_some_iff.mp h).1
    rw [List.getElem?_set_self hlt, flds_get h, hv]
  · rw [List.getElem?_set_ne (Ne.symm hj)]
    simp only [flds, List.getElem?_mapIdx]
    cases (fk ci)[j]? with
    | none => rfl
    | some t2 => simp [ho j t2 hj]
theorem cellE_same {M M' : MM} {b : Nat} (h1 : M'.1 b = M.1 b) (h2 : M'.2.1 b = M.2.1 b) (h3 : M'.2.2.1 b = M.2.2.1 b) (h4 : M'.2.2.2.1 b = M.2.2.2.1 b) (h5 : M'.2.2.2.2 b = M.2.2.2.2 b) : cellE g M' b = cellE g M b := by
  unfold cellE arE flds fvv
  rw [h1, h2, h3, h4, h5]
theorem putI (v : Int32) (h : (fk ci)[k]? = some 0) : PutOk g (K, len, I, J, R) (K, len, up2 I a k v, J, R) a ci k (.int v) := by
  refine ⟨rfl, flds_up h ?_ ?_, fun b hb => cellE_same rfl rfl ?_ rfl rfl⟩
  · simp [fvv, up2]
  · intro j t hj; simp [fvv, up2, hj]
  · funext j; simp [up2, hb]
theorem putJ (v : Int64) (h : (fk ci)[k]? = some 1) : PutOk g (K, len, I, J, R) (K, len, I, up2 J a k v, R) a ci k (.long v) := by
  refine ⟨rfl, flds_up h ?_ ?_, fun b hb => cellE_same rfl rfl rfl ?_ rfl⟩
  · simp [fvv, up2]
  · intro j t hj; simp [fvv, up2, hj]
  · funext j; simp [up2, hb]
theorem putR (v : Nat) (h : (fk ci)[k]? = some 2) : PutOk g (K, len, I, J, R) (K, len, I, J, up2 R a k (some v)) a ci k (.ref v) := by
  refine ⟨rfl, flds_up h ?_ ?_, fun b hb => cellE_same rfl rfl rfl rfl ?_⟩
  · simp [fvv, up2, va_rf]
  · intro j t hj; simp [fvv, up2, hj]
  · funext j; simp [up2, hb]
end PUTOK
section ARR
variable {g : GG} {X : XT} {cc : ByteArray} {own : String} {nL : Nat} {rm : Room} {pc : Nat} {lv : List (Nat × Value)} {st : List Value} {cn sn : Nat} {K len : Nat → Nat} {I : Nat → Nat → Int32} {J : Nat → Nat → Int64} {R : Nat → Nat → Option Nat}
theorem vin {i : Int32} {n : Nat} (h1 : 0 ≤ i.toInt) (h2 : i.toInt < n) : vp_in i n := vp_in_iff.mpr ⟨h1, h2⟩
theorem arE_I {t : Nat} {M : MM} {a : Nat} (h : t ≠ 2 ∧ t ≠ 4 ∧ t ≠ 5) : arE t M a = .inl (M.2.2.1 a) := by simp [arE, h.1, h.2.1, h.2.2]
theorem r_iaload (hC : Cx g X cc own nL rm) {a : Nat} {i : Int32} (hK : K a ≠ 0) (hO : kO (K a) = none) (hA : kA (K a) = 1) (h1 : 0 ≤ i.toInt) (h2 : i.toInt < len a) (hd : decode cc pc = .ok (.iaload, 1))
    (k : ∀ z : Int32, z = I a i.toNatClampNeg → P g X nL (pc + 1) lv (.int z :: st) cn sn (K, len, I, J, R)) : P g X nL pc lv (.int i :: .ref a :: st) cn sn (K, len, I, J, R) := by
  intro H locs ls hw hS hl
  obtain ⟨L, q, hL, hP, hD, hq⟩ := hw.at hK
  rw [cellE_arr hO] at hq
  dsimp only at hq
  rw [hA, arE_I (by decide)] at hq
  exact va_iald hC.1 hC.2.1 hC.2.2.2.2.2.1 hP q 1 hq rfl (vin h1 h2) hd (k _ rfl H locs ls hw hS hl)
theorem r_baload (hC : Cx g X cc own nL rm) {a : Nat} {i : Int32} (hK : K a ≠ 0) (hO : kO (K a) = none) (hA : kA (K a) = 0) (h1 : 0 ≤ i.toInt) (h2 : i.toInt < len a) (hd : decode cc pc = .ok (.baload, 1))
    (k : ∀ z : Int32, z = I a i.toNatClampNeg → P g X nL (pc + 1) lv (.int z :: st) cn sn (K, len, I, J, R)) : P g X nL pc lv (.int i :: .ref a :: st) cn sn (K, len, I, J, R) := by
  intro H locs ls hw hS hl
  obtain ⟨L, q, hL, hP, hD, hq⟩ := hw.at hK
  rw [cellE_arr hO] at hq
  dsimp only at hq
  rw [hA, arE_I (by decide)] at hq
  exact va_bald hC.1 hC.2.1 hC.2.2.2.2.2.1 hP q 0 hq rfl (vin h1 h2) hd (k _ rfl H locs ls hw hS hl)
theorem r_zaload (hC : Cx g X cc own nL rm) {a : Nat} {i : Int32} (hK : K a ≠ 0) (hO : kO (K a) = none) (hA : kA (K a) = 3) (h1 : 0 ≤ i.toInt) (h2 : i.toInt < len a) (hd : decode cc pc = .ok (.baload, 1))
    (k : ∀ z : Int32, z = I a i.toNatClampNeg → P g X nL (pc + 1) lv (.int z :: st) cn sn (K, len, I, J, R)) : P g X nL pc lv (.int i :: .ref a :: st) cn sn (K, len, I, J, R) := by
  intro H locs ls hw hS hl
  obtain ⟨L, q, hL, hP, hD, hq⟩ := hw.at hK
  rw [cellE_arr hO] at hq
  dsimp only at hq
  rw [hA, arE_I (by decide)] at hq
  exact va_zald hC.1 hC.2.1 hC.2.2.2.2.2.1 hP q 3 hq rfl (vin h1 h2) hd (k _ rfl H locs ls hw hS hl)
theorem r_laload (hC : Cx g X cc own nL rm) {a : Nat} {i : Int32} (hK : K a ≠ 0) (hO : kO (K a) = none) (hA : kA (K a) = 2) (h1 : 0 ≤ i.toInt) (h2 : i.toInt < len a) (hd : decode cc pc = .ok (.laload, 1))
    (k : ∀ z : Int64, z = J a i.toNatClampNeg → P g X nL (pc + 1) lv (.long z :: st) cn sn (K, len, I, J, R)) : P g X nL pc lv (.int i :: .ref a :: st) cn sn (K, len, I, J, R) := by
  intro H locs ls hw hS hl
  obtain ⟨L, q, hL, hP, hD, hq⟩ := hw.at hK
  rw [cellE_arr hO] at hq
  dsimp only at hq
  rw [hA] at hq
  exact va_lald hC.1 hC.2.1 hC.2.2.2.2.2.1 hP q 2 hq rfl (vin h1 h2) hd (k _ rfl H locs ls hw hS hl)
theorem r_aaload (hC : Cx g X cc own nL rm) {a b t : Nat} {C : String} {i : Int32} (hK : K a ≠ 0) (hO : kO (K a) = none) (hA : kA (K a) = t) (ht : (t = 4 ∧ C = "HillTap$Course") ∨ (t = 5 ∧ C = "HillTap$Story")) (h1 : 0 ≤ i.toInt) (h2 : i.toInt < len a) (hv : R a i.toNatClampNeg = some b) (hd : decode cc pc = .ok (.aaload, 1))
    (k : P g X nL (pc + 1) lv (.ref b :: st) cn sn (K, len, I, J, R)) : P g X nL pc lv (.int i :: .ref a :: st) cn sn (K, len, I, J, R) := by
  intro H locs ls hw hS hl
  obtain ⟨L, q, hL, hP, hD, hq⟩ := hw.at hK
  rw [cellE_arr hO] at hq
  dsimp only at hq
  rw [hA] at hq
  rcases ht with ⟨rfl, rfl⟩ | ⟨rfl, rfl⟩
  · exact va_aldq hC.1 hC.2.1 hC.2.2.2.2.2.1 hP q 4 hq rfl (vin h1 h2) hd (by dsimp only; rw [hv]; exact k H locs ls hw hS hl)
  · exact va_aldq hC.1 hC.2.1 hC.2.2.2.2.2.1 hP q 5 hq rfl (vin h1 h2) hd (by dsimp only; rw [hv]; exact k H locs ls hw hS hl)
theorem r_alen (hC : Cx g X cc own nL rm) {a : Nat} {n : Nat} (hK : K a ≠ 0) (hO : kO (K a) = none) (hA : kA (K a) < 6) (hn : len a = n) (hd : decode cc pc = .ok (.arraylength, 1))
    (k : ∀ z : Int32, z = Int32.ofNat n → P g X nL (pc + 1) lv (.int z :: st) cn sn (K, len, I, J, R)) : P g X nL pc lv (.ref a :: st) cn sn (K, len, I, J, R) := by
  intro H locs ls hw hS hl
  obtain ⟨L, q, hL, hP, hD, hq⟩ := hw.at hK
  rw [cellE_arr hO] at hq
  dsimp only at hq
  have ht : ∃ ty, (tys g)[kA (K a)]? = some (g.2.1 (kA (K a)), ty) := by
    match h : kA (K a), hA with
    | 0, _ => exact ⟨_, rfl⟩
    | 1, _ => exact ⟨_, rfl⟩
    | 2, _ => exact ⟨_, rfl⟩
    | 3, _ => exact ⟨_, rfl⟩
    | 4, _ => exact ⟨_, rfl⟩
    | 5, _ => exact ⟨_, rfl⟩
  obtain ⟨ty, ht⟩ := ht
  exact va_alen hC.1 hC.2.1 hC.2.2.2.2.2.1 hP q _ hq ht (by rw [← hn]) hd (k _ rfl H locs ls hw hS hl)
theorem updI (f : Nat → Int32) (k : Nat) (v : Int32) (I : Nat → Nat → Int32) (a : Nat) (h : f = I a) : upd f k v = up2 I a k v a := by
  funext j; rw [h]; unfold upd up2; by_cases e : j = k <;> simp [e]
theorem r_iastore (hC : Cx g X cc own nL rm) {a : Nat} {i v : Int32} (hK : K a ≠ 0) (hO : kO (K a) = none) (hA : kA (K a) = 1) (h1 : 0 ≤ i.toInt) (h2 : i.toInt < len a) (hd : decode cc pc = .ok (.iastore, 1))
    (k : ∀ I', I' = up2 I a i.toNatClampNeg v → P g X nL (pc + 1) lv st cn sn (K, len, I', J, R)) : P g X nL pc lv (.int v :: .int i :: .ref a :: st) cn sn (K, len, I, J, R) := by
  intro H locs ls hw hS hl
  obtain ⟨L, q, hL, hP, hD, hq⟩ := hw.at hK
  have hq' := hq
  rw [cellE_arr hO] at hq'
  dsimp only at hq'
  rw [hA, arE_I (by decide)] at hq'
  refine va_iast hC.1 hC.2.1 hC.2.2.2.2.2.1 hP hD hS q 1 hq' rfl (vin h1 h2) hd (fun H1 locs1 hP1 hD1 hS1 => k _ rfl H1 locs1 ls (Wv.set (M' := (K, len, up2 I a i.toNatClampNeg v, J, R)) hL hD hK hq rfl ?_ ?_ hP1 hD1) hS1 hl)
  · rw [cellE_arr hO]; dsimp only; rw [hA, arE_I (by decide), updI _ _ _ I a rfl]
  · intro b hb; exact cellE_same rfl rfl (by funext j; simp [up2, hb]) rfl rfl
theorem r_bastore (hC : Cx g X cc own nL rm) {a : Nat} {i v : Int32} (hK : K a ≠ 0) (hO : kO (K a) = none) (hA : kA (K a) = 0) (h1 : 0 ≤ i.toInt) (h2 : i.toInt < len a) (hd : decode cc pc = .ok (.bastore, 1))
    (k : ∀ I', I' = up2 I a i.toNatClampNeg (vp_nar .byte v) → P g X nL (pc + 1) lv st cn sn (K, len, I', J, R)) : P g X nL pc lv (.int v :: .int i :: .ref a :: st) cn sn (K, len, I, J, R) := by
  intro H locs ls hw hS hl
  obtain ⟨L, q, hL, hP, hD, hq⟩ := hw.at hK
  have hq' := hq
  rw [cellE_arr hO] at hq'
  dsimp only at hq'
  rw [hA, arE_I (by decide)] at hq'
  refine va_bast hC.1 hC.2.1 hC.2.2.2.2.2.1 hP hD hS q 0 hq' rfl (vin h1 h2) hd (fun H1 locs1 hP1 hD1 hS1 => k _ rfl H1 locs1 ls (Wv.set (M' := (K, len, up2 I a i.toNatClampNeg (vp_nar .byte v), J, R)) hL hD hK hq rfl ?_ ?_ hP1 hD1) hS1 hl)
  · rw [cellE_arr hO]; dsimp only; rw [hA, arE_I (by decide), updI _ _ _ I a rfl]
  · intro b hb; exact cellE_same rfl rfl (by funext j; simp [up2, hb]) rfl rfl
theorem r_zastore (hC : Cx g X cc own nL rm) {a : Nat} {i v : Int32} (hK : K a ≠ 0) (hO : kO (K a) = none) (hA : kA (K a) = 3) (h1 : 0 ≤ i.toInt) (h2 : i.toInt < len a) (hd : decode cc pc = .ok (.bastore, 1))
    (k : ∀ I', I' = up2 I a i.toNatClampNeg (vp_nar .boolean v) → P g X nL (pc + 1) lv st cn sn (K, len, I', J, R)) : P g X nL pc lv (.int v :: .int i :: .ref a :: st) cn sn (K, len, I, J, R) := by
  intro H locs ls hw hS hl
  obtain ⟨L, q, hL, hP, hD, hq⟩ := hw.at hK
  have hq' := hq
  rw [cellE_arr hO] at hq'
  dsimp only at hq'
  rw [hA, arE_I (by decide)] at hq'
  refine va_zast hC.1 hC.2.1 hC.2.2.2.2.2.1 hP hD hS q 3 hq' rfl (vin h1 h2) hd (fun H1 locs1 hP1 hD1 hS1 => k _ rfl H1 locs1 ls (Wv.set (M' := (K, len, up2 I a i.toNatClampNeg (vp_nar .boolean v), J, R)) hL hD hK hq rfl ?_ ?_ hP1 hD1) hS1 hl)
  · rw [cellE_arr hO]; dsimp only; rw [hA, arE_I (by decide), updI _ _ _ I a rfl]
  · intro b hb; exact cellE_same rfl rfl (by funext j; simp [up2, hb]) rfl rfl
theorem r_lastore (hC : Cx g X cc own nL rm) {a : Nat} {i : Int32} {v : Int64} (hK : K a ≠ 0) (hO : kO (K a) = none) (hA : kA (K a) = 2) (h1 : 0 ≤ i.toInt) (h2 : i.toInt < len a) (hd : decode cc pc = .ok (.lastore, 1))
    (k : ∀ J', J' = up2 J a i.toNatClampNeg v → P g X nL (pc + 1) lv st cn sn (K, len, I, J', R)) : P g X nL pc lv (.long v :: .int i :: .ref a :: st) cn sn (K, len, I, J, R) := by
  intro H locs ls hw hS hl
  obtain ⟨L, q, hL, hP, hD, hq⟩ := hw.at hK
  have hq' := hq
  rw [cellE_arr hO] at hq'
  dsimp only at hq'
  rw [hA] at hq'
  refine va_last hC.1 hC.2.1 hC.2.2.2.2.2.1 hP hD hS q 2 hq' rfl (vin h1 h2) hd (fun H1 locs1 hP1 hD1 hS1 => k _ rfl H1 locs1 ls (Wv.set (M' := (K, len, I, up2 J a i.toNatClampNeg v, R)) hL hD hK hq rfl ?_ ?_ hP1 hD1) hS1 hl)
  · rw [cellE_arr hO]; dsimp only; rw [hA]
    have e : up2 J a i.toNatClampNeg v a = vp_updL (J a) i.toNatClampNeg v := by funext j; simp [vp_updL, up2]
    simp [arE, e]
  · intro b hb; exact cellE_same rfl rfl rfl (by funext j; simp [up2, hb]) rfl
theorem r_aastore (hC : Cx g X cc own nL rm) {a b ci t N : Nat} {C : String} {T : u_T} {i : Int32} (hK : K a ≠ 0) (hO : kO (K a) = none) (hA : kA (K a) = t) (ht : (t = 4 ∧ C = "HillTap$Course") ∨ (t = 5 ∧ C = "HillTap$Story")) (hb : kO (K b) = some ci) (hcl : vwCl[ci]? = some (C, T, N)) (h1 : 0 ≤ i.toInt) (h2 : i.toInt < len a) (hd : decode cc pc = .ok (.aastore, 1))
    (k : ∀ R', R' = up2 R a i.toNatClampNeg (some b) → P g X nL (pc + 1) lv st cn sn (K, len, I, J, R')) : P g X nL pc lv (.ref b :: .int i :: .ref a :: st) cn sn (K, len, I, J, R) := by
  intro H locs ls hw hS hl
  obtain ⟨L, q, hL, hP, hD, hq⟩ := hw.at hK
  obtain ⟨q2, hq2⟩ := va_pl_get (X := []) (f := cellE g (K, len, I, J, R)) ((hL b).mpr (kO_ne hb))
  rw [cellE_obj hb, List.nil_append] at hq2
  have hq' := hq
  rw [cellE_arr hO] at hq'
  dsimp only at hq'
  rw [hA] at hq'
  have fin : ∀ H1 locs1, va_P g.1 vwCl ((va_pl L (cellE g (K, len, I, J, R))).set q (a, .inl (g.2.1 t, len a, .inr (.inr (.inr (.inr (va_up (R a) i.toNatClampNeg (some b)))))))) H1 → va_D (Areg (xK X) (xS X).heap.size) ((va_pl L (cellE g (K, len, I, J, R))).set q (a, .inl (g.2.1 t, len a, .inr (.inr (.inr (.inr (va_up (R a) i.toNatClampNeg (some b)))))))) → va_S (Areg (xK X) (xS X).heap.size) (xS X).heap H1 locs1 → W (xP X) (xL X) (xE X) (xR X) (xS X) (xM X) (xA X) (xB X) (xT X) (xC X) H1 locs1 cn sn (xQ X) (F0 (xM X) (pc + 1) ls st) := by
    intro H1 locs1 hP1 hD1 hS1
    refine k _ rfl H1 locs1 ls (Wv.set (M' := (K, len, I, J, up2 R a i.toNatClampNeg (some b))) hL hD hK hq rfl ?_ ?_ hP1 hD1) hS1 hl
    · rw [cellE_arr hO]; dsimp only; rw [hA]
      have e : up2 R a i.toNatClampNeg (some b) a = va_up (R a) i.toNatClampNeg (some b) := by funext j; simp [up2, va_up]
      rcases ht with ⟨rfl, rfl⟩ | ⟨rfl, rfl⟩ <;> simp [arE, e]
    · intro c hc; exact cellE_same rfl rfl rfl rfl (by funext j; simp [up2, hc])
  rcases ht with ⟨rfl, rfl⟩ | ⟨rfl, rfl⟩
  · exact va_astq hC.1 hC.2.1 hC.2.2.2.2.2.1 hP hD hS q 4 q2 ci hq' rfl hq2 hcl (vin h1 h2) hd fin
  · exact va_astq hC.1 hC.2.1 hC.2.2.2.2.2.1 hP hD hS q 5 q2 ci hq' rfl hq2 hcl (vin h1 h2) hd fin
end ARR
