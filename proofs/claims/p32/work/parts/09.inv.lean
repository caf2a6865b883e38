def refT : Nat → List (Nat × Nat × Nat) := fun q => match q with
  | 1 => [(0, 50, 300), (1, 51, 300), (2, 52, 300), (3, 53, 60), (4, 54, 60)]
  | 2 => [(0, 3, 0), (2, 55, 5), (3, 56, 5), (5, 57, 60), (7, 45, 6), (9, 58, 4), (10, 59, 4), (11, 60, 4), (13, 61, 4), (14, 62, 4)]
  | 3 => [(6, 63, 16), (7, 64, 16)]
  | 4 => [(1, 46, 24), (2, 47, 24), (3, 65, 24), (4, 66, 24)]
  | 6 => [(0, 40, 900)]
  | 7 => [(0, 8, 0), (1, 42, 19), (2, 48, 5)]
  | 8 => [(0, 6, 0)]
  | 9 => [(0, 6, 0), (1, 7, 0), (2, 2, 0), (3, 2, 0), (4, 41, 60), (5, 44, 6), (6, 43, 6), (7, 41, 60), (8, 1, 0), (9, 4, 0), (10, 67, 6), (11, 68, 6)]
  | 10 => [(11, 70, 5), (12, 71, 5), (13, 72, 16), (14, 73, 16), (15, 74, 60), (16, 75, 6), (18, 76, 6), (20, 77, 4), (21, 78, 4), (22, 79, 4), (23, 80, 4), (24, 81, 4), (25, 82, 19), (26, 83, 19), (27, 84, 19)]
  | 11 => [(5, 49, 900), (15, 85, 60), (16, 86, 300), (17, 87, 300), (18, 88, 300), (21, 89, 24), (22, 90, 24), (23, 91, 24), (24, 92, 24), (25, 93, 6)]
  | _ => []
def rngI : Nat → Nat → Option (Int × Int) := fun q k => match q, k with
  | 2, 1 => some (0, 5)
  | 2, 4 => some (0, 6)
  | 2, 6 => some (0, 6)
  | 2, 8 => some (0, 4)
  | 2, 12 => some (0, 4)
  | 3, 4 => some (0, 16)
  | 3, 5 => some (0, 16)
  | 4, 0 => some (0, 24)
  | 6, 1 => some (0, 900)
  | 7, 3 => some (0, 19)
  | 8, 1 => some (0, 900)
  | 8, 2 => some (0, 900)
  | 8, 4 => some (0, 900)
  | 10, 3 => some (0, 5)
  | 10, 4 => some (0, 16)
  | 10, 5 => some (0, 8)
  | 10, 6 => some (0, 6)
  | 10, 7 => some (0, 6)
  | 10, 8 => some (0, 4)
  | 10, 9 => some (0, 4)
  | 10, 10 => some (0, 19)
  | 11, 6 => some (0, 900)
  | 11, 7 => some (0, 900)
  | 11, 8 => some (0, 900)
  | 11, 19 => some (-2, 59)
  | 11, 20 => some (0, 24)
  | _, _ => none
def arrT : Nat → Option (Int × Int) := fun q => match q with
  | 46 => some (0, 4)
  | 47 => some (0, 59)
  | 89 => some (0, 4)
  | 90 => some (0, 59)
  | _ => none
/-- fields and rows that stand in a relation to others -/
def xF : Nat → Nat → Bool := fun q k => (q == 3 && (k == 4 || k == 5)) || (q == 10 && (k == 4 || k == 5 || k == 7)) || (q == 11 && k == 19)
def IvR (K len : Nat → Nat) (R : Nat → Nat → Option Nat) : Prop := ∀ a, ∀ e ∈ refT (K a), ∃ b, R a e.1 = some b ∧ K b = e.2.1 ∧ (e.2.2 ≠ 0 → len b = e.2.2)
def IvQ (K : Nat → Nat) (R : Nat → Nat → Option Nat) : Prop := (∀ a, K a = 44 → ∀ j, j < 6 → ∃ b, R a j = some b ∧ K b = 1) ∧ (∀ a, K a = 45 → ∀ j, j < 6 → ∃ b, R a j = some b ∧ K b = 5) ∧ (∀ a, K a = 11 → R a 3 = none ∨ ∃ b, R a 3 = some b ∧ K b = 10) ∧ (∀ a, K a = 11 → R a 4 = none ∨ ∃ b, R a 4 = some b ∧ K b = 10)
def IvM (K len : Nat → Nat) (R : Nat → Nat → Option Nat) : Prop := ∀ a, K a = 10 → ∃ kd mo, R a 17 = some kd ∧ K kd = 1000 + 2 * a ∧ len kd = 6 ∧ R a 19 = some mo ∧ K mo = 1001 + 2 * a ∧ len mo = 6
def IvI (K : Nat → Nat) (I : Nat → Nat → Int32) : Prop := ∀ a k lo hi, rngI (K a) k = some (lo, hi) → lo ≤ (I a k).toInt ∧ (I a k).toInt ≤ hi
def IvA (K len : Nat → Nat) (I : Nat → Nat → Int32) : Prop := ∀ a lo hi, arrT (K a) = some (lo, hi) → ∀ j, j < len a → lo ≤ (I a j).toInt ∧ (I a j).toInt ≤ hi
def IvX (K : Nat → Nat) (I : Nat → Nat → Int32) (R : Nat → Nat → Option Nat) : Prop := (∀ a, K a = 3 → (I a 5).toInt ≤ (I a 4).toInt) ∧ (∀ a, K a = 10 → (I a 5).toInt ≤ (I a 4).toInt) ∧ (∀ a, K a = 11 → (I a 19).toInt ≠ -1) ∧ (∀ a kd mo, K a = 10 → R a 17 = some kd → R a 19 = some mo → ∀ j : Nat, (j : Int) < (I a 7).toInt → (I kd j).toInt = 2 → 1 ≤ (I mo j).toInt ∧ (I mo j).toInt ≤ 20)
/-- the pool keeps to its types, its ranges and its relations -/
def Sf (K len : Nat → Nat) (I : Nat → Nat → Int32) (R : Nat → Nat → Option Nat) : Prop := IvR K len R ∧ IvQ K R ∧ IvM K len R ∧ IvI K I ∧ IvA K len I ∧ IvX K I R
section SF
variable {K len : Nat → Nat} {I I' : Nat → Nat → Int32} {R : Nat → Nat → Option Nat}
theorem Sf.obj (h : Sf K len I R) {a q : Nat} (hk : K a = q) (k t : Nat) (hm : (k, t, 0) ∈ refT q) : ∃ b, R a k = some b ∧ K b = t := by
  obtain ⟨b, h1, h2, -⟩ := h.1 a (k, t, 0) (by rw [hk]; exact hm)
  exact ⟨b, h1, h2⟩
theorem Sf.row (h : Sf K len I R) {a q : Nat} (hk : K a = q) (k t n : Nat) (hm : (k, t, n) ∈ refT q) (hn : n ≠ 0) : ∃ b, R a k = some b ∧ K b = t ∧ len b = n := by
  obtain ⟨b, h1, h2, h3⟩ := h.1 a (k, t, n) (by rw [hk]; exact hm)
  exact ⟨b, h1, h2, h3 hn⟩
theorem Sf.rng (h : Sf K len I R) {a q k : Nat} (hk : K a = q) {lo hi : Int} (hm : rngI q k = some (lo, hi)) {x : Int32} (e : x = I a k) : lo ≤ x.toInt ∧ x.toInt ≤ hi := by
  rw [e]; exact h.2.2.2.1 a k lo hi (by rw [hk]; exact hm)
theorem clampI {i : Int32} (h1 : 0 ≤ i.toInt) : (i.toNatClampNeg : Int) = i.toInt := by
  show ((i.toInt.toNat : Nat) : Int) = i.toInt
  omega
theorem Sf.arr (h : Sf K len I R) {a q n : Nat} (hk : K a = q) (hl : len a = n) {lo hi : Int} (hm : arrT q = some (lo, hi)) {x i : Int32} (h1 : 0 ≤ i.toInt) (h2 : i.toInt < n) (e : x = I a i.toNatClampNeg) : lo ≤ x.toInt ∧ x.toInt ≤ hi := by
  rw [e]; exact h.2.2.2.2.1 a lo hi (by rw [hk]; exact hm) _ (by have := clampI h1; rw [hl]; omega)
theorem IvM.kd (h : IvM K len R) {a b : Nat} (hk : K a = 10) (hb : R a 17 = some b) : K b = 1000 + 2 * a := by
  obtain ⟨kd, mo, r1, q1, -⟩ := h a hk
  rw [hb] at r1; cases r1; exact q1
theorem IvM.mo (h : IvM K len R) {a b : Nat} (hk : K a = 10) (hb : R a 19 = some b) : K b = 1001 + 2 * a := by
  obtain ⟨kd, mo, -, -, -, r1, q1, -⟩ := h a hk
  rw [hb] at r1; cases r1; exact q1
/-- a store that touches no relation -/
theorem IvX.put {a k q : Nat} {v : Int32} (h : IvX K I R) (hM : IvM K len R) (e : I' = up2 I a k v) (hk : K a = q) (hx : xF q k = false) (hq : q < 1000) : IvX K I' R := by
  have ne : ∀ b j, xF (K b) j = true → I' b j = I b j := by
    intro b j hb
    rw [e, up2_ne _ _ ?_]
    apply Classical.byContradiction
    intro hn
    have hba : b = a ∧ j = k := ⟨Classical.byContradiction fun h => hn (Or.inl h), Classical.byContradiction fun h => hn (Or.inr h)⟩
    rw [hba.1, hba.2, hk, hx] at hb
    cases hb
  have ne2 : ∀ b j, 1000 ≤ K b → I' b j = I b j := by
    intro b j hb
    rw [e, up2_ne _ _ (Or.inl fun h => ?_)]
    rw [h, hk] at hb
    omega
  refine ⟨fun b hb => ?_, fun b hb => ?_, fun b hb => ?_, fun b kd mo hb h1 h2 j => ?_⟩
  · rw [ne b 5 (by rw [hb]; rfl), ne b 4 (by rw [hb]; rfl)]; exact h.1 b hb
  · rw [ne b 5 (by rw [hb]; rfl), ne b 4 (by rw [hb]; rfl)]; exact h.2.1 b hb
  · rw [ne b 19 (by rw [hb]; rfl)]; exact h.2.2.1 b hb
  · have z1 := hM.kd hb h1; have z2 := hM.mo hb h2; rw [ne b 7 (by rw [hb]; rfl), ne2 kd j (by omega), ne2 mo j (by omega)]; exact h.2.2.2 b kd mo hb h1 h2 j
theorem IvI.put {a k q : Nat} {v : Int32} (h : IvI K I) (e : I' = up2 I a k v) (hk : K a = q) (hr : ∀ lo hi, rngI q k = some (lo, hi) → lo ≤ v.toInt ∧ v.toInt ≤ hi) : IvI K I' := by
  intro b j lo hi hb
  by_cases hba : b = a ∧ j = k
  · obtain ⟨rfl, rfl⟩ := hba
    rw [e, up2_self]
    exact hr lo hi (by rw [← hk]; exact hb)
  · rw [e, up2_ne _ _ ?_]
    · exact h b j lo hi hb
    · by_cases h1 : b = a
      · exact Or.inr fun h2 => hba ⟨h1, h2⟩
      · exact Or.inl h1
theorem IvA.put {a k q : Nat} {v : Int32} (h : IvA K len I) (e : I' = up2 I a k v) (hk : K a = q) (hr : ∀ lo hi, arrT q = some (lo, hi) → lo ≤ v.toInt ∧ v.toInt ≤ hi) : IvA K len I' := by
  intro b lo hi hb j hj
  by_cases hba : b = a ∧ j = k
  · obtain ⟨rfl, rfl⟩ := hba
    rw [e, up2_self]
    exact hr lo hi (by rw [← hk]; exact hb)
  · rw [e, up2_ne _ _ ?_]
    · exact h b lo hi hb j hj
    · by_cases h1 : b = a
      · exact Or.inr fun h2 => hba ⟨h1, h2⟩
      · exact Or.inl h1
/-- a field without a range -/
theorem Sf.put0 {a k q : Nat} {v : Int32} (h : Sf K len I R) (e : I' = up2 I a k v) (hk : K a = q) (hm : rngI q k = none) (ha : arrT q = none) (hx : xF q k = false) (hq : q < 1000) : Sf K len I' R :=
  ⟨h.1, h.2.1, h.2.2.1, h.2.2.2.1.put e hk (fun lo hi h => by rw [hm] at h; cases h), h.2.2.2.2.1.put e hk (fun lo hi h => by rw [ha] at h; cases h), h.2.2.2.2.2.put h.2.2.1 e hk hx hq⟩
/-- a field with one -/
theorem Sf.put1 {a k q : Nat} {v : Int32} (h : Sf K len I R) (e : I' = up2 I a k v) (hk : K a = q) {lo hi : Int} (hm : rngI q k = some (lo, hi)) (h1 : lo ≤ v.toInt) (h2 : v.toInt ≤ hi) (ha : arrT q = none) (hx : xF q k = false) (hq : q < 1000) : Sf K len I' R :=
  ⟨h.1, h.2.1, h.2.2.1, h.2.2.2.1.put e hk (fun lo' hi' h => by rw [hm] at h; cases h; exact ⟨h1, h2⟩), h.2.2.2.2.1.put e hk (fun lo hi h => by rw [ha] at h; cases h), h.2.2.2.2.2.put h.2.2.1 e hk hx hq⟩
/-- a place of a row with a range -/
theorem Sf.putA {a k q : Nat} {v : Int32} (h : Sf K len I R) (e : I' = up2 I a k v) (hk : K a = q) {lo hi : Int} (hm : arrT q = some (lo, hi)) (h1 : lo ≤ v.toInt) (h2 : v.toInt ≤ hi) (hr : ∀ k, rngI q k = none) (hx : ∀ k, xF q k = false) (hq : q < 1000) : Sf K len I' R :=
  ⟨h.1, h.2.1, h.2.2.1, h.2.2.2.1.put e hk (fun lo' hi' h => by rw [hr] at h; cases h), h.2.2.2.2.1.put e hk (fun lo' hi' h => by rw [hm] at h; cases h; exact ⟨h1, h2⟩), h.2.2.2.2.2.put h.2.2.1 e hk (hx k) hq⟩
theorem rng_arr {q : Nat} (h : 40 ≤ q) (k : Nat) : rngI q k = none := by
  unfold rngI
  split <;> first | rfl | omega
theorem xF_arr {q : Nat} (h : 40 ≤ q) (k : Nat) : xF q k = false := by
  have h1 : (q == 3) = false := by simp; omega
  have h2 : (q == 10) = false := by simp; omega
  have h3 : (q == 11) = false := by simp; omega
  simp [xF, h1, h2, h3]
end SF
theorem ti_add {a b : Int32} (h1 : -2147483648 ≤ a.toInt + b.toInt) (h2 : a.toInt + b.toInt ≤ 2147483647) : (a + b).toInt = a.toInt + b.toInt := by
  rw [Int32.toInt_add, Int.bmod_eq_of_le (by omega) (by omega)]
theorem ti_sub {a b : Int32} (h1 : -2147483648 ≤ a.toInt - b.toInt) (h2 : a.toInt - b.toInt ≤ 2147483647) : (a - b).toInt = a.toInt - b.toInt := by
  rw [Int32.toInt_sub, Int.bmod_eq_of_le (by omega) (by omega)]
theorem ti_mul {a b : Int32} {x y : Int} (ha : a.toInt = x) (hb : b.toInt = y) (h1 : -2147483648 ≤ x * y) (h2 : x * y ≤ 2147483647) : (a * b).toInt = x * y := by
  rw [Int32.toInt_mul, ha, hb, Int.bmod_eq_of_le (by omega) (by omega)]
theorem ti_rng (a : Int32) : -2147483648 ≤ a.toInt ∧ a.toInt ≤ 2147483647 := ⟨Int32.le_toInt a, by have := Int32.toInt_lt a; omega⟩
theorem ne_0 {a : Int32} (h : a.toInt ≠ 0) : ¬ a = 0 := fun e => h (by rw [e]; rfl)
theorem nz_b {a : Int32} (h1 : 0 ≤ a.toInt) (h2 : a.toInt ≤ 1) : narrow .boolean (.int a) = .int a := by
  have : a = 0 ∨ a = 1 := by
    rcases (show a.toInt = 0 ∨ a.toInt = 1 by omega) with h | h
    · exact Or.inl (Int32.toInt_inj.mp (by rw [h]; rfl))
    · exact Or.inr (Int32.toInt_inj.mp (by rw [h]; rfl))
  rcases this with rfl | rfl <;> rfl
section FLD
variable {g : GG} {X : XT} {cc : ByteArray} {own : String} {nL : Nat} {rm : Room} {pc : Nat} {lv : List (Nat × Value)} {st : List Value} {cn sn : Nat} {K len : Nat → Nat} {I : Nat → Nat → Int32} {J : Nat → Nat → Int64} {R : Nat → Nat → Option Nat} {a ix ci q N : Nat} {C : String} {T : u_T} {host : String} {ty0 : Nat → FieldType}
theorem r_geti (hC : Cx g X cc own nL rm) (k : Nat) (hcl : vwCl[ci]? = some (C, T, N)) (hin : ∀ w ∈ u_ws C T N, w ∈ tb) (hk : k < N) (hl : Cond.fieldLink own ix (T k).1 (T k).2.1 (T k).2.2.1 ∈ tb) (hd : decode cc pc = .ok (.getfield ix, 3)) (hK : K a = q) (hq : kO q = some ci) (ht : (fk ci)[k]? = some 0)
    (kk : ∀ x : Int32, x = I a k → P g X nL (pc + 3) lv (.int x :: st) cn sn (K, len, I, J, R)) : P g X nL pc lv (.ref a :: st) cn sn (K, len, I, J, R) := r_get hC hcl hin hk hl hd (by show kO (K a) = _; rw [hK]; exact hq) (flds_get ht) (kk _ rfl)
theorem r_getj (hC : Cx g X cc own nL rm) (k : Nat) (hcl : vwCl[ci]? = some (C, T, N)) (hin : ∀ w ∈ u_ws C T N, w ∈ tb) (hk : k < N) (hl : Cond.fieldLink own ix (T k).1 (T k).2.1 (T k).2.2.1 ∈ tb) (hd : decode cc pc = .ok (.getfield ix, 3)) (hK : K a = q) (hq : kO q = some ci) (ht : (fk ci)[k]? = some 1)
    (kk : ∀ x : Int64, x = J a k → P g X nL (pc + 3) lv (.long x :: st) cn sn (K, len, I, J, R)) : P g X nL pc lv (.ref a :: st) cn sn (K, len, I, J, R) := r_get hC hcl hin hk hl hd (by show kO (K a) = _; rw [hK]; exact hq) (flds_get ht) (kk _ rfl)
theorem r_getr (hC : Cx g X cc own nL rm) (k : Nat) {b : Nat} (hcl : vwCl[ci]? = some (C, T, N)) (hin : ∀ w ∈ u_ws C T N, w ∈ tb) (hk : k < N) (hl : Cond.fieldLink own ix (T k).1 (T k).2.1 (T k).2.2.1 ∈ tb) (hd : decode cc pc = .ok (.getfield ix, 3)) (hK : K a = q) (hq : kO q = some ci) (ht : (fk ci)[k]? = some 2) (hb : R a k = some b)
    (kk : P g X nL (pc + 3) lv (.ref b :: st) cn sn (K, len, I, J, R)) : P g X nL pc lv (.ref a :: st) cn sn (K, len, I, J, R) := r_get hC hcl hin hk hl hd (by show kO (K a) = _; rw [hK]; exact hq) ((flds_get ht).trans (by show some (va_rf (R a k)) = _; rw [hb]; rfl)) kk
theorem r_getz (hC : Cx g X cc own nL rm) (k : Nat) (hcl : vwCl[ci]? = some (C, T, N)) (hin : ∀ w ∈ u_ws C T N, w ∈ tb) (hk : k < N) (hl : Cond.fieldLink own ix (T k).1 (T k).2.1 (T k).2.2.1 ∈ tb) (hd : decode cc pc = .ok (.getfield ix, 3)) (hK : K a = q) (hq : kO q = some ci) (ht : (fk ci)[k]? = some 2) (hb : R a k = none)
    (kk : P g X nL (pc + 3) lv (.null :: st) cn sn (K, len, I, J, R)) : P g X nL pc lv (.ref a :: st) cn sn (K, len, I, J, R) := r_get hC hcl hin hk hl hd (by show kO (K a) = _; rw [hK]; exact hq) ((flds_get ht).trans (by show some (va_rf (R a k)) = _; rw [hb]; rfl)) kk
theorem r_puti (hC : Cx g X cc own nL rm) (k : Nat) {v : Int32} (hcl : vwCl[ci]? = some (C, T, N)) (hin : ∀ w ∈ u_ws C T N, w ∈ tb) (hty : ∀ k, k < N → parseFieldDescriptor (T k).2.2.1 = some (ty0 k)) (hnm : ∀ a, a < N → ∀ b, b < N → a ≠ b → (T a).2.1 ≠ (T b).2.1) (hk : k < N) (hl : Cond.fieldLink own ix (T k).1 (T k).2.1 (T k).2.2.1 ∈ tb) (hfin : (T k).2.2.2 = false) (hn : narrow (ty0 k) (.int v) = .int v) (hfit : fits (ty0 k) (.int v) = true) (hd : decode cc pc = .ok (.putfield ix, 3)) (hK : K a = q) (hq : kO q = some ci) (ht : (fk ci)[k]? = some 0)
    (kk : ∀ I', I' = up2 I a k v → P g X nL (pc + 3) lv st cn sn (K, len, I', J, R)) : P g X nL pc lv (.int v :: .ref a :: st) cn sn (K, len, I, J, R) := r_put hC hcl hin hty hnm hk hl hfin hn hfit (List.getElem?_eq_some_iff.mp ht).1 hd (by show kO (K a) = _; rw [hK]; exact hq) (putI v ht) (kk _ rfl)
theorem r_putj (hC : Cx g X cc own nL rm) (k : Nat) {v : Int64} (hcl : vwCl[ci]? = some (C, T, N)) (hin : ∀ w ∈ u_ws C T N, w ∈ tb) (hty : ∀ k, k < N → parseFieldDescriptor (T k).2.2.1 = some (ty0 k)) (hnm : ∀ a, a < N → ∀ b, b < N → a ≠ b → (T a).2.1 ≠ (T b).2.1) (hk : k < N) (hl : Cond.fieldLink own ix (T k).1 (T k).2.1 (T k).2.2.1 ∈ tb) (hfin : (T k).2.2.2 = false) (hn : narrow (ty0 k) (.long v) = .long v) (hfit : fits (ty0 k) (.long v) = true) (hd : decode cc pc = .ok (.putfield ix, 3)) (hK : K a = q) (hq : kO q = some ci) (ht : (fk ci)[k]? = some 1)
    (kk : ∀ J', J' = up2 J a k v → P g X nL (pc + 3) lv st cn sn (K, len, I, J', R)) : P g X nL pc lv (.long v :: .ref a :: st) cn sn (K, len, I, J, R) := r_put hC hcl hin hty hnm hk hl hfin hn hfit (List.getElem?_eq_some_iff.mp ht).1 hd (by show kO (K a) = _; rw [hK]; exact hq) (putJ v ht) (kk _ rfl)
theorem r_putr (hC : Cx g X cc own nL rm) (k : Nat) {v : Nat} (hcl : vwCl[ci]? = some (C, T, N)) (hin : ∀ w ∈ u_ws C T N, w ∈ tb) (hty : ∀ k, k < N → parseFieldDescriptor (T k).2.2.1 = some (ty0 k)) (hnm : ∀ a, a < N → ∀ b, b < N → a ≠ b → (T a).2.1 ≠ (T b).2.1) (hk : k < N) (hl : Cond.fieldLink own ix (T k).1 (T k).2.1 (T k).2.2.1 ∈ tb) (hfin : (T k).2.2.2 = false) (hn : narrow (ty0 k) (.ref v) = .ref v) (hfit : fits (ty0 k) (.ref v) = true) (hd : decode cc pc = .ok (.putfield ix, 3)) (hK : K a = q) (hq : kO q = some ci) (ht : (fk ci)[k]? = some 2)
    (kk : ∀ R', R' = up2 R a k (some v) → P g X nL (pc + 3) lv st cn sn (K, len, I, J, R')) : P g X nL pc lv (.ref v :: .ref a :: st) cn sn (K, len, I, J, R) := r_put hC hcl hin hty hnm hk hl hfin hn hfit (List.getElem?_eq_some_iff.mp ht).1 hd (by show kO (K a) = _; rw [hK]; exact hq) (putR v ht) (kk _ rfl)
theorem r_getiN (hC : Cx g X cc own nL rm) (k : Nat) (hcl : vwCl[ci]? = some (C, T, N)) (hin : ∀ w ∈ u_ws C T N, w ∈ tb) (hk : k < N) (hl : (own, ix, (T k).1, (T k).2.1, (T k).2.2.1, host) ∈ nestF) (hd : decode cc pc = .ok (.getfield ix, 3)) (hK : K a = q) (hq : kO q = some ci) (ht : (fk ci)[k]? = some 0)
    (kk : ∀ x : Int32, x = I a k → P g X nL (pc + 3) lv (.int x :: st) cn sn (K, len, I, J, R)) : P g X nL pc lv (.ref a :: st) cn sn (K, len, I, J, R) := r_getN hC hcl hin hk hl hd (by show kO (K a) = _; rw [hK]; exact hq) (flds_get ht) (kk _ rfl)
theorem r_getrN (hC : Cx g X cc own nL rm) (k : Nat) {b : Nat} (hcl : vwCl[ci]? = some (C, T, N)) (hin : ∀ w ∈ u_ws C T N, w ∈ tb) (hk : k < N) (hl : (own, ix, (T k).1, (T k).2.1, (T k).2.2.1, host) ∈ nestF) (hd : decode cc pc = .ok (.getfield ix, 3)) (hK : K a = q) (hq : kO q = some ci) (ht : (fk ci)[k]? = some 2) (hb : R a k = some b)
    (kk : P g X nL (pc + 3) lv (.ref b :: st) cn sn (K, len, I, J, R)) : P g X nL pc lv (.ref a :: st) cn sn (K, len, I, J, R) := r_getN hC hcl hin hk hl hd (by show kO (K a) = _; rw [hK]; exact hq) ((flds_get ht).trans (by show some (va_rf (R a k)) = _; rw [hb]; rfl)) kk
theorem r_putiN (hC : Cx g X cc own nL rm) (k : Nat) {v : Int32} (hcl : vwCl[ci]? = some (C, T, N)) (hin : ∀ w ∈ u_ws C T N, w ∈ tb) (hty : ∀ k, k < N → parseFieldDescriptor (T k).2.2.1 = some (ty0 k)) (hnm : ∀ a, a < N → ∀ b, b < N → a ≠ b → (T a).2.1 ≠ (T b).2.1) (hk : k < N) (hl : (own, ix, (T k).1, (T k).2.1, (T k).2.2.1, host) ∈ nestF) (hfin : (T k).2.2.2 = false) (hn : narrow (ty0 k) (.int v) = .int v) (hfit : fits (ty0 k) (.int v) = true) (hd : decode cc pc = .ok (.putfield ix, 3)) (hK : K a = q) (hq : kO q = some ci) (ht : (fk ci)[k]? = some 0)
    (kk : ∀ I', I' = up2 I a k v → P g X nL (pc + 3) lv st cn sn (K, len, I', J, R)) : P g X nL pc lv (.int v :: .ref a :: st) cn sn (K, len, I, J, R) := r_putN hC hcl hin hty hnm hk hl hfin hn hfit (List.getElem?_eq_some_iff.mp ht).1 hd (by show kO (K a) = _; rw [hK]; exact hq) (putI v ht) (kk _ rfl)
theorem r_putrF (hC : Cx g X cc own nL rm) (k : Nat) {v : Nat} (hinit : (xT X).name = "<init>") (hcl : vwCl[ci]? = some (C, T, N)) (hin : ∀ w ∈ u_ws C T N, w ∈ tb) (hty : ∀ k, k < N → parseFieldDescriptor (T k).2.2.1 = some (ty0 k)) (hnm : ∀ a, a < N → ∀ b, b < N → a ≠ b → (T a).2.1 ≠ (T b).2.1) (hk : k < N) (hl : Cond.fieldLink own ix (T k).1 (T k).2.1 (T k).2.2.1 ∈ tb) (hfin : (T k).2.2.2 = true) (hdecl : (T k).1 = own) (hn : narrow (ty0 k) (.ref v) = .ref v) (hfit : fits (ty0 k) (.ref v) = true) (hd : decode cc pc = .ok (.putfield ix, 3)) (hK : K a = q) (hq : kO q = some ci) (ht : (fk ci)[k]? = some 2)
    (kk : ∀ R', R' = up2 R a k (some v) → P g X nL (pc + 3) lv st cn sn (K, len, I, J, R')) : P g X nL pc lv (.ref v :: .ref a :: st) cn sn (K, len, I, J, R) := r_putF hC hinit hcl hin hty hnm hk hl hfin hdecl hn hfit (List.getElem?_eq_some_iff.mp ht).1 hd (by show kO (K a) = _; rw [hK]; exact hq) (putR v ht) (kk _ rfl)
end FLD
theorem u0_in : ∀ w ∈ u_ws RX0 TX0 7, w ∈ tb := by decide +kernel
theorem u1_in : ∀ w ∈ u_ws RX1 TX1 15, w ∈ tb := by decide +kernel
theorem u2_in : ∀ w ∈ u_ws RX2 TX2 8, w ∈ tb := by decide +kernel
theorem u3_in : ∀ w ∈ u_ws RX3 TX3 5, w ∈ tb := by decide +kernel
theorem u4_in : ∀ w ∈ u_ws RX4 TX4 4, w ∈ tb := by decide +kernel
theorem u5_in : ∀ w ∈ u_ws RX5 TX5 2, w ∈ tb := by decide +kernel
theorem u6_in : ∀ w ∈ u_ws RX6 TX6 7, w ∈ tb := by decide +kernel
theorem u7_in : ∀ w ∈ u_ws RX7 TX7 6, w ∈ tb := by decide +kernel
theorem u8_in : ∀ w ∈ u_ws RX8 TX8 13, w ∈ tb := by decide +kernel
theorem u9_in : ∀ w ∈ u_ws RX9 TX9 28, w ∈ tb := by decide +kernel
theorem u10_in : ∀ w ∈ u_ws RX10 TX10 26, w ∈ tb := by decide +kernel

