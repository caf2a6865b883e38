def SM (D : DD) (rm : Nat) (I : Nat → Nat → Int32) : Prop := ((D 0 0 = 0 ∧ (I rm 0).toInt = -1) ∨ (D 0 0 ≠ 0 ∧ (I rm 0).toInt = D 0 1 ∧ 0 ≤ D 0 1 ∧ (I rm 1).toInt = D 0 2 ∧ (I rm 2).toInt = D 0 3)) ∧ (I rm 3).toInt = D 0 5 ∧ (I rm 4).toInt = D 0 4 ∧ (I rm 5).toInt = D 0 4 ∧ (I rm 6).toInt = D 0 6 ∧ (I rm 7).toInt = D 0 7 ∧ (I rm 8).toInt = D 0 8 ∧ (I rm 9).toInt = D 0 9 ∧ (I rm 10).toInt = D 0 10
def NmM (D : DD) (nr : Nat) (J : Nat → Nat → Int64) : Prop := ∀ j : Nat, (j : Int) < D 0 10 → (J nr j).toInt = D 20 j
def PgI (D : DD) (ns : Nat) (I : Nat → Nat → Int32) : Prop := (∀ i : Nat, (i : Int) < D 0 10 → ((I ns i).toInt = 0 ↔ ∃ j : Nat, (j : Int) < D 0 5 ∧ D 23 j = D 20 i)) ∧ (∀ j : Nat, (j : Int) < D 0 5 → ∃ i : Nat, (i : Int) < D 0 10 ∧ D 20 i = D 23 j)
def NsO (D : DD) (ns : Nat) (I I' : Nat → Nat → Int32) : Prop := ∀ i : Nat, (i : Int) < D 0 10 → I' ns i = I ns i
/-- nothing of another hill is written -/
def OM (K : Nat → Nat) (rm : Nat) (I I' : Nat → Nat → Int32) : Prop := ∀ b, K b = 10 → b ≠ rm → I' b = I b
def okM (l : List (Nat × Nat)) : Bool := l.all (fun e => e.1 != 10)
theorem okM_in {l : List (Nat × Nat)} (h : okM l = true) (k : Nat) : inS l 10 k = false := by
  apply Classical.byContradiction; intro hc
  rw [Bool.not_eq_false] at hc
  obtain ⟨e, he, h1⟩ := List.any_eq_true.mp hc
  have h2 := List.all_eq_true.mp h e he
  simp only [Bool.and_eq_true, Bool.or_eq_true, beq_iff_eq, bne_iff_ne, Nat.ble_eq] at h1 h2
  omega
theorem OM.rf {K : Nat → Nat} {rm : Nat} {I : Nat → Nat → Int32} : OM K rm I I := fun _ _ _ => rfl
theorem OM.tr {K : Nat → Nat} {rm : Nat} {I I1 I2 : Nat → Nat → Int32} (h : OM K rm I I1) (h2 : OM K rm I1 I2) : OM K rm I I2 := fun b hb hn => (h2 b hb hn).trans (h b hb hn)
theorem OM.mv {K : Nat → Nat} {rm : Nat} {l : List (Nat × Nat)} {I I1 I2 : Nat → Nat → Int32} (h : OM K rm I I1) (hF : Fr K l I1 I2) (ho : okM l = true) : OM K rm I I2 := fun b hb hn => (funext fun k => hF.get hb (okM_in ho k)).trans (h b hb hn)
theorem OM.put {K : Nat → Nat} {rm : Nat} {I I1 I2 : Nat → Nat → Int32} (h : OM K rm I I1) {a k q : Nat} {v : Int32} (e : I2 = up2 I1 a k v) (hq : K a = q) (h1 : q ≠ 10 ∨ a = rm) : OM K rm I I2 := by
  intro b hb hn
  rw [← h b hb hn, e]; funext j
  refine up2_ne _ _ (Or.inl (fun z => ?_))
  subst z
  rcases h1 with h1 | h1
  · exact h1 (hq.symm.trans hb)
  · exact hn h1
def RpM (D : DD) (rm nr ns : Nat) (I : Nat → Nat → Int32) (J : Nat → Nat → Int64) : Prop := SM D rm I ∧ NmM D nr J ∧ PgI D ns I
section MREP
variable {D D' : DD} {rm nr ns : Nat} {K : Nat → Nat} {I I' I0 : Nat → Nat → Int32} {J J' : Nat → Nat → Int64} {l lj : List (Nat × Nat)} {v w : Int}
theorem NmM.mv (h : NmM D nr J) (hF : Fr K lj J J') (hk : K nr = 82) (hin : ∀ k, inS lj 82 k = false) : NmM D nr J' := fun j hj => by rw [hF.get hk (hin j)]; exact h j hj
theorem NmM.cg (h : NmM D nr J) (h1 : D' 0 10 = D 0 10) (h2 : ∀ j, D' 20 j = D 20 j) : NmM D' nr J := fun j hj => by rw [h2]; exact h j (by omega)
theorem NmM.add (h : NmM D nr J) {i : Nat} {y : Int64} (e : J' = up2 J nr i y) (hi : (i : Int) = D 0 10) (hy : y.toInt = v) : NmM (adN D v) nr J' := by
  intro j hj
  unfold adN at hj ⊢
  rw [upD_s] at hj
  rw [upD_n _ _ (Or.inl (by decide)), e]
  by_cases hji : j = i
  · subst hji; rw [up2_self, show (D 0 10).toNat = j by omega, upD_s]; exact hy
  · rw [up2_ne _ _ (Or.inr hji), upD_n _ _ (Or.inr (by omega))]; exact h j (by omega)
theorem PgI.mv (h : PgI D ns I) (hF : Fr K l I I') (hk : K ns = 83) (hin : ∀ k, inS l 83 k = false) : PgI D ns I' := ⟨fun i hi => by rw [hF.get hk (hin i)]; exact h.1 i hi, h.2⟩
theorem PgI.put (h : PgI D ns I) {a k q : Nat} {x : Int32} (e : I' = up2 I a k x) (hq : K a = q) (hk : K ns = 83) (hne : q ≠ 83) : PgI D ns I' := ⟨fun i hi => by rw [e, up2_ne _ _ (Or.inl (fun z => hne (by rw [← hq, ← z, hk])))]; exact h.1 i hi, h.2⟩
theorem nwput {k0 : Nat} {c : Int} (h : (I ns k0).toInt = c) {a k q : Nat} {x : Int32} (e : I' = up2 I a k x) (hq : K a = q) (hk : K ns = 83) (hne : q ≠ 83) : (I' ns k0).toInt = c := by rw [e, up2_ne _ _ (Or.inl (fun z => hne (by rw [← hq, ← z, hk])))]; exact h
theorem nwmv {k0 : Nat} {c : Int} (h : (I ns k0).toInt = c) (hF : Fr K l I I') (hk : K ns = 83) (hin : inS l 83 k0 = false) : (I' ns k0).toInt = c := by rw [hF.get hk hin]; exact h
theorem NsO.put (h : NsO D ns I0 I) {a k q : Nat} {x : Int32} (e : I' = up2 I a k x) (hq : K a = q) (hk : K ns = 83) (hne : q ≠ 83) : NsO D ns I0 I' := fun i hi => by rw [e, up2_ne _ _ (Or.inl (fun z => hne (by rw [← hq, ← z, hk])))]; exact h i hi
theorem NsO.mv (h : NsO D ns I0 I) (hF : Fr K l I I') (hk : K ns = 83) (hin : ∀ k, inS l 83 k = false) : NsO D ns I0 I' := fun i hi => by rw [hF.get hk (hin i)]; exact h i hi
theorem PgI.sm (h : PgI D ns I) (ho : NsO D ns I I') : PgI D ns I' := ⟨fun i hi => by rw [ho i hi]; exact h.1 i hi, h.2⟩
theorem PgI.cg (h : PgI D ns I) (h1 : D' 0 10 = D 0 10) (h2 : ∀ j, D' 20 j = D 20 j) (h3 : D' 0 5 = D 0 5) (h4 : ∀ j, D' 23 j = D 23 j) : PgI D' ns I := by
  refine ⟨fun i hi => ?_, fun j hj => ?_⟩
  · rw [h.1 i (by omega)]
    constructor
    · rintro ⟨j, a, b⟩; exact ⟨j, by omega, by rw [h4, h2]; exact b⟩
    · rintro ⟨j, a, b⟩; exact ⟨j, by omega, by rw [h4, h2] at b; exact b⟩
  · obtain ⟨i, a, b⟩ := h.2 j (by omega)
    exact ⟨i, by omega, by rw [h2, h4]; exact b⟩
theorem adN_0 : adN D v 0 10 = D 0 10 + 1 := by unfold adN; rw [upD_s]
theorem adN_5 : adN D v 0 5 = D 0 5 := adN_n (by decide)
theorem adN_23 (j : Nat) : adN D v 23 j = D 23 j := by unfold adN; rw [upD_n _ _ (Or.inl (by decide)), upD_n _ _ (Or.inl (by decide))]
theorem adN_o {i : Nat} (h : (i : Int) < D 0 10) : adN D v 20 i = D 20 i := by unfold adN; rw [upD_n _ _ (Or.inl (by decide)), upD_n _ _ (Or.inr (by omega))]
theorem adN_w {i : Nat} (h : (i : Int) = D 0 10) : adN D v 20 i = v := by unfold adN; rw [upD_n _ _ (Or.inl (by decide)), show (D 0 10).toNat = i by omega, upD_s]
theorem PgI.other (h : PgI D ns I) (h0 : 0 ≤ D 0 10) (hf : ¬ ∃ j : Nat, (j : Int) < D 0 10 ∧ D 20 j = v) {c : Int} (hw : (I ns (D 0 10).toNat).toInt = c) (hc : c ≠ 0) : PgI (adN D v) ns I := by
  refine ⟨fun i hi => ?_, fun j hj => ?_⟩
  · rw [adN_0] at hi
    by_cases hio : (i : Int) < D 0 10
    · rw [h.1 i hio, adN_o hio]
      constructor
      · rintro ⟨j, a, b⟩; exact ⟨j, by rw [adN_5]; exact a, by rw [adN_23]; exact b⟩
      · rintro ⟨j, a, b⟩; exact ⟨j, by rw [adN_5] at a; exact a, by rw [adN_23] at b; exact b⟩
    · have hie : (i : Int) = D 0 10 := by omega
      rw [show i = (D 0 10).toNat by omega, hw]
      constructor
      · intro z; exact absurd z hc
      · rintro ⟨j, a, b⟩
        rw [adN_5] at a; rw [adN_23, adN_w (by omega)] at b
        obtain ⟨k, g1, g2⟩ := h.2 j a
        exact absurd ⟨k, g1, by rw [g2]; exact b⟩ hf
  · rw [adN_5] at hj
    obtain ⟨i, g1, g2⟩ := h.2 j hj
    exact ⟨i, by rw [adN_0]; omega, by rw [adN_o g1, adN_23]; exact g2⟩
theorem PgI.peg (h : PgI D ns I) (h0 : 0 ≤ D 0 10) (h5 : 0 ≤ D 0 5) (hf : ¬ ∃ j : Nat, (j : Int) < D 0 10 ∧ D 20 j = v) (hw : (I ns (D 0 10).toNat).toInt = 0) : PgI (upD (upD (adN D v) 23 (adN D v 0 5).toNat v) 0 5 (adN D v 0 5 + 1)) ns I := by
  have e10 : upD (upD (adN D v) 23 (adN D v 0 5).toNat v) 0 5 (adN D v 0 5 + 1) 0 10 = D 0 10 + 1 := by rw [upD_n _ _ (Or.inr (by decide)), upD_n _ _ (Or.inl (by decide)), adN_0]
  have e5 : upD (upD (adN D v) 23 (adN D v 0 5).toNat v) 0 5 (adN D v 0 5 + 1) 0 5 = D 0 5 + 1 := by rw [upD_s, adN_5]
  have e20 : ∀ i, upD (upD (adN D v) 23 (adN D v 0 5).toNat v) 0 5 (adN D v 0 5 + 1) 20 i = adN D v 20 i := fun i => by rw [upD_n _ _ (Or.inl (by decide)), upD_n _ _ (Or.inl (by decide))]
  have e23 : ∀ j, j ≠ (D 0 5).toNat → upD (upD (adN D v) 23 (adN D v 0 5).toNat v) 0 5 (adN D v 0 5 + 1) 23 j = D 23 j := fun j hj => by rw [upD_n _ _ (Or.inl (by decide)), upD_n _ _ (Or.inr (by rw [adN_5]; exact hj)), adN_23]
  have e23w : upD (upD (adN D v) 23 (adN D v 0 5).toNat v) 0 5 (adN D v 0 5 + 1) 23 (D 0 5).toNat = v := by rw [upD_n _ _ (Or.inl (by decide)), adN_5, upD_s]
  refine ⟨fun i hi => ?_, fun j hj => ?_⟩
  · rw [e10] at hi
    rw [e20]
    by_cases hio : (i : Int) < D 0 10
    · rw [h.1 i hio, adN_o hio]
      constructor
      · rintro ⟨j, a, b⟩; exact ⟨j, by rw [e5]; omega, by rw [e23 j (by omega)]; exact b⟩
      · rintro ⟨j, a, b⟩
        rw [e5] at a
        by_cases hj : j = (D 0 5).toNat
        · rw [hj, e23w] at b; exact absurd ⟨i, hio, b.symm⟩ hf
        · rw [e23 j hj] at b; exact ⟨j, by omega, b⟩
    · rw [show i = (D 0 10).toNat by omega, hw, adN_w (by omega)]
      exact ⟨fun _ => ⟨(D 0 5).toNat, by rw [e5]; omega, e23w⟩, fun _ => rfl⟩
  · rw [e5] at hj
    by_cases hjj : j = (D 0 5).toNat
    · exact ⟨(D 0 10).toNat, by rw [e10]; omega, by rw [e20, adN_w (by omega), hjj, e23w]⟩
    · obtain ⟨i, g1, g2⟩ := h.2 j (by omega)
      exact ⟨i, by rw [e10]; omega, by rw [e20, adN_o g1, e23 j hjj]; exact g2⟩
theorem pk_no (h : PgI D ns I) (hf : ∀ j : Nat, (j : Int) < D 0 10 → D 20 j ≠ w) : ¬ ∃ j : Nat, (j : Int) < D 0 5 ∧ D 23 j = w := by
  rintro ⟨j, a, b⟩
  obtain ⟨i, g1, g2⟩ := h.2 j a
  exact hf i g1 (by rw [g2]; exact b)
theorem pk_iff (h : PgI D ns I) {i : Nat} (hi : (i : Int) < D 0 10) (e : D 20 i = w) : (I ns i).toInt = 0 ↔ ∃ j : Nat, (j : Int) < D 0 5 ∧ D 23 j = w := by rw [← e]; exact h.1 i hi
theorem sFresh_new {B : Nat → Int} {n p : Nat} {x : DD × Nat} (h : sFresh B n p D = .ok x) : ¬ ∃ j : Nat, (j : Int) < D 0 10 ∧ D 20 j = vl B n p := by
  have h1 := sFresh_nm h
  unfold sFresh at h; rw [pif_t h1] at h
  intro hc
  rw [pif_t hc] at h; cases h
end MREP
def NnI (D : DD) (ns nn : Nat) (I : Nat → Nat → Int32) : Prop := ∀ i : Nat, (i : Int) < D 0 10 → (I ns i).toInt = 0 → 0 ≤ (I nn i).toInt ∧ (I nn i).toInt < D 0 5 ∧ D 23 (I nn i).toInt.toNat = D 20 i
def NvA (I : Nat → Nat → Int32) (a k : Nat) (c : Int) : Prop := (I a k).toInt = c
theorem clx {i : Int32} {z : Int} (h : i.toInt = z) (h0 : 0 ≤ z) : i.toNatClampNeg = z.toNat := by have h9 := clampI (i := i) (by omega); omega
theorem SM.st {D D' : DD} {rm : Nat} {I I' : Nat → Nat → Int32} (h : SM D rm I) (k0 : (I' rm 0).toInt = (I rm 0).toInt) (k1 : (I' rm 1).toInt = (I rm 1).toInt) (k2 : (I' rm 2).toInt = (I rm 2).toInt) (d0 : D' 0 0 = D 0 0) (d1 : D' 0 1 = D 0 1) (d2 : D' 0 2 = D 0 2) (d3 : D' 0 3 = D 0 3) (e3 : (I' rm 3).toInt = D' 0 5) (e4 : (I' rm 4).toInt = D' 0 4) (e5 : (I' rm 5).toInt = D' 0 4) (e6 : (I' rm 6).toInt = D' 0 6) (e7 : (I' rm 7).toInt = D' 0 7) (e8 : (I' rm 8).toInt = D' 0 8) (e9 : (I' rm 9).toInt = D' 0 9) (e10 : (I' rm 10).toInt = D' 0 10) : SM D' rm I' := by
  refine ⟨?_, e3, e4, e5, e6, e7, e8, e9, e10⟩
  rw [k0, k1, k2, d0, d1, d2, d3]; exact h.1
section NNI
variable {D D' : DD} {rm nr ns nn : Nat} {K : Nat → Nat} {I I' I0 : Nat → Nat → Int32} {l : List (Nat × Nat)} {v w : Int}
theorem NnI.sm (h : NnI D ns nn I) (h1 : NsO D ns I I') (h2 : NsO D nn I I') : NnI D ns nn I' := fun i hi hz => by
  rw [h1 i hi] at hz; rw [h2 i hi]; exact h i hi hz
theorem NnI.mv (h : NnI D ns nn I) (hF : Fr K l I I') (kns : K ns = 83) (knn : K nn = 84) (h1 : ∀ k, inS l 83 k = false) (h2 : ∀ k, inS l 84 k = false) : NnI D ns nn I' := h.sm (fun i _ => hF.get kns (h1 i)) (fun i _ => hF.get knn (h2 i))
theorem NnI.put (h : NnI D ns nn I) {a k q : Nat} {x : Int32} (e : I' = up2 I a k x) (hq : K a = q) (kns : K ns = 83) (knn : K nn = 84) (h1 : q ≠ 83) (h2 : q ≠ 84) : NnI D ns nn I' := h.sm (fun i _ => up2_kk e hq kns (Ne.symm h1)) (fun i _ => up2_kk e hq knn (Ne.symm h2))
theorem NsO.putG (h : NsO D ns I0 I) {a k q z : Nat} {x : Int32} (e : I' = up2 I a k x) (hq : K a = q) (hk : K ns = z) (hne : q ≠ z) : NsO D ns I0 I' := fun i hi => (up2_kk e hq hk (Ne.symm hne)).trans (h i hi)
theorem NsO.mvG (h : NsO D ns I0 I) {z : Nat} (hF : Fr K l I I') (hk : K ns = z) (hin : ∀ k, inS l z k = false) : NsO D ns I0 I' := fun i hi => (hF.get hk (hin i)).trans (h i hi)
theorem nvput {k0 z : Nat} {c : Int} (h : NvA I ns k0 c) {a k q : Nat} {x : Int32} (e : I' = up2 I a k x) (hq : K a = q) (hk : K ns = z) (hne : q ≠ z) : NvA I' ns k0 c := by unfold NvA; rw [up2_kk e hq hk (Ne.symm hne)]; exact h
theorem nvmv {k0 z : Nat} {c : Int} (h : NvA I ns k0 c) (hF : Fr K l I I') (hk : K ns = z) (hin : inS l z k0 = false) : NvA I' ns k0 c := by unfold NvA; rw [hF.get hk hin]; exact h
theorem NvA.tr {k0 : Nat} {c d : Int} (h : NvA I ns k0 c) (e : c = d) : (I ns k0).toInt = d := Eq.trans h e
theorem NnI.cg (h : NnI D ns nn I) (h1 : D' 0 10 = D 0 10) (h2 : ∀ j, D' 20 j = D 20 j) (h3 : D' 0 5 = D 0 5) (h4 : ∀ j, D' 23 j = D 23 j) : NnI D' ns nn I := fun i hi hz => by
  rw [h1] at hi; rw [h2, h3, h4]; exact h i hi hz
theorem NnI.other (h : NnI D ns nn I) {c : Int} (hw : (I ns (D 0 10).toNat).toInt = c) (hc : c ≠ 0) : NnI (adN D v) ns nn I := fun i hi hz => by
  rw [adN_0] at hi
  by_cases hio : (i : Int) < D 0 10
  · rw [adN_5, adN_23, adN_o hio]; exact h i hio hz
  · rw [show i = (D 0 10).toNat by omega, hw] at hz; exact absurd hz hc
theorem NnI.peg (h : NnI D ns nn I) (h0 : 0 ≤ D 0 10) (h5 : 0 ≤ D 0 5) {a b : Int} (hx : (I nn (D 0 10).toNat).toInt = D 0 5) : NnI (aPeg (adN D v) a b v) ns nn I := fun i hi hz => by
  have e10 : aPeg (adN D v) a b v 0 10 = D 0 10 + 1 := by simp [aPeg, adN, upD]
  have e5 : aPeg (adN D v) a b v 0 5 = D 0 5 + 1 := by simp [aPeg, adN, upD]
  have e20 : ∀ j, aPeg (adN D v) a b v 20 j = adN D v 20 j := fun j => by simp [aPeg, upD]
  have e23 : ∀ j, aPeg (adN D v) a b v 23 j = if j = (D 0 5).toNat then v else D 23 j := fun j => by simp [aPeg, upD, adN]
  rw [e10] at hi
  rw [e5, e20, e23]
  by_cases hio : (i : Int) < D 0 10
  · obtain ⟨g1, g2, g3⟩ := h i hio hz
    rw [if_neg (by omega), adN_o hio]; exact ⟨g1, by omega, g3⟩
  · have hie : i = (D 0 10).toNat := by omega
    subst hie
    rw [hx, if_pos rfl, adN_w (by omega)]; exact ⟨h5, by omega, rfl⟩
theorem pgx_u (hJ : DJ D) (h5 : D 0 5 ≤ 5) {j : Nat} (hj : (j : Int) < D 0 5) (h : D 23 j = v) : pgx D v = j := pgx_eq (by omega) h (fun i hi hz => by
  have := hJ.2.1 i j (by omega) hj (hz.trans h.symm)
  omega)
theorem NnI.pgx (h : NnI D ns nn I) (hJ : DJ D) (h5 : D 0 5 ≤ 5) {i : Nat} (hi : (i : Int) < D 0 10) (hz : (I ns i).toInt = 0) (hv : D 20 i = v) : (I nn i).toInt = pgx D v := by
  obtain ⟨g1, g2, g3⟩ := h i hi hz
  have := pgx_u hJ h5 (j := (I nn i).toInt.toNat) (by omega) (g3.trans hv)
  omega
end NNI
set_option maxHeartbeats 4000000 in
set_option maxRecDepth 100000 in
theorem e_X10_readFresh (g : GG) (l : Launch) (K len : Nat → Nat) (I : Nat → Nat → Int32) (J : Nat → Nat → Int64) (R : Nat → Nat → Option Nat) (hs : Sf K len I R) (a0 : Nat) (ka0 : K a0 = 11) (x1 : Int32) (x2 : Int32) (rm : Nat) (hbr : R a0 4 = some rm) (krm : K rm = 10) (p0 : (I a0 9).toInt = 5) : Ct g l yX10_readFresh cX10_readFresh 3 (Option.none : Option Jvm.ClassFile.FieldType) rmX10_readFresh [.ref a0, .int x1, .int x2] (K, len, I, J, R) (pV2 (K, len, I, J, R) (fun I' J' => Sf K len I' R ∧ Fr K [(10, 10), (11, 8), (11, 9), (11, 10), (11, 11), (11, 12), (11, 13), (83, 999), (84, 999)] I I' ∧ Fr K [(11, 14), (82, 999)] J J' ∧ ((I' a0 9).toInt = 5) ∧ ((I' a0 12).toInt = (I a0 12).toInt) ∧ ((I' a0 13).toInt = (I a0 13).toInt) ∧ (OM K rm I I'))) := by
  refine Ct_intro (by decide +kernel) (Nat.le_of_ble_eq_true rfl) (fun X hC hL hKK hNm hr hlk hQ => ?_)
  subst hL
  have hC : Cx g X cX10_readFresh "HillTapModel" 3 rmX10_readFresh := hC
  show P g X 3 0 [(0, .ref a0), (1, .int x1), (2, .int x2)] [] 0 0 (K, len, I, J, R)
  have hF : Fr K [(10, 10), (11, 8), (11, 9), (11, 10), (11, 11), (11, 12), (11, 13), (83, 999), (84, 999)] I I := Fr.refl
  have hFJ : Fr K [(11, 14), (82, 999)] J J := Fr.refl
  have b_x1 := ti_rng x1
  have b_x2 := ti_rng x2
  obtain ⟨T0, eT0⟩ : ∃ z : Int32, z = I a0 9 := ⟨_, rfl⟩
  have fT0 : T0.toInt = (I a0 9).toInt := by rw [eT0]
  obtain ⟨F0, eF0⟩ : ∃ z : Int32, z = I a0 12 := ⟨_, rfl⟩
  have fF0 : F0.toInt = (I a0 12).toInt := by rw [eF0]
  obtain ⟨W0, eW0⟩ : ∃ z : Int32, z = I a0 13 := ⟨_, rfl⟩
  have fW0 : W0.toInt = (I a0 13).toInt := by rw [eW0]
  have om : OM K rm I I := OM.rf
  refine r_aload_n hC dX10_readFresh_0 0 rfl ?_
  refine r_callV hC (As := []) (rest := []) (ci := 10) (e_X10_isName g (xL X) K len I J R hs a0 ka0 (by omega)) mT_6_27 mT_1_10 mT_6_24 mT_6_26 mP_61 okX10_isName ⟨by decide, by decide⟩ rfl (by show kO (K a0) = _; rw [ka0]; rfl) rfl rfl (Nat.le_of_ble_eq_true rfl) ⟨by decide, by decide⟩ dX10_readFresh_1 (aI0 (F := fun st M => P g X 3 4 [(0, .ref a0), (1, .int x1), (2, .int x2)] st _ _ M) (M := (K, len, I, J, R)) fun x1_ h1 => ?_)
  have k1_0 := h1
  clear h1
  show P g X 3 4 [(0, .ref a0), (1, .int x1), (2, .int x2)] [.int x1_] _ _ (K, len, I, J, R)
  refine r_if_ne hC (tgt := 12) dX10_readFresh_4 (by decide) (fun c2 => ?_) (fun c2 => ?_)
  · exfalso; omega
  refine r_aload_n hC dX10_readFresh_7 0 rfl ?_
  refine r_iconst hC (v := (1)) dX10_readFresh_8 (by decide) (by decide) (fun x3_ e3 t3 => ?_)
  refine r_callV hC (As := [.int x3_]) (rest := []) (ci := 10) (e_X10_wrong g (xL X) K len I J R hs a0 ka0 x3_ (by omega)) mT_5_236 mT_1_10 mT_5_233 mT_5_235 mP_55 okX10_wrong ⟨by decide, by decide⟩ rfl (by show kO (K a0) = _; rw [ka0]; rfl) rfl rfl (Nat.le_of_ble_eq_true rfl) ⟨by decide, by decide⟩ dX10_readFresh_9 (aV1 (F := fun st M => P g X 3 12 [(0, .ref a0), (1, .int x1), (2, .int x2)] st _ _ M) (M := (K, len, I, J, R)) fun I4 h4 => ?_)
  obtain ⟨hs4, hf4, k4_0, k4_1, k4_2⟩ := h4
  show P g X 3 12 [(0, .ref a0), (1, .int x1), (2, .int x2)] [] _ _ (K, len, I4, J, R)
  have hF4 : Fr K [(10, 10), (11, 8), (11, 9), (11, 10), (11, 11), (11, 12), (11, 13), (83, 999), (84, 999)] I I4 := hF.trans hf4 rfl rfl
  have om4 := om.mv hf4 rfl
  refine r_aload_n hC dX10_readFresh_12 0 rfl ?_
  refine r_getr hC 4 (ci := 10) rfl u10_in (by decide) mT_4_239 dX10_readFresh_13 ka0 rfl rfl hbr ?_
  refine r_aload_n hC dX10_readFresh_16 0 rfl ?_
  refine r_getj hC 14 (ci := 10) rfl u10_in (by decide) mT_5_9 dX10_readFresh_17 ka0 rfl rfl (fun y5_ e5 => ?_)
  have fj5 : y5_.toInt = (J a0 14).toInt := by rw [e5]
  refine r_callV hC (As := [.long y5_]) (rest := []) (ci := 9) (c_X9_find g (xL X) K len I4 J R hs4 rm krm y5_) mT_6_36 mT_1_17 mT_6_33 mT_6_34 mT_6_35 okX9_find ⟨by decide, by decide⟩ rfl (by show kO (K rm) = _; rw [krm]; rfl) rfl rfl (Nat.le_of_ble_eq_true rfl) ⟨by decide, by decide⟩ dX10_readFresh_20 (aI0 (F := fun st M => P g X 3 23 [(0, .ref a0), (1, .int x1), (2, .int x2)] st _ _ M) (M := (K, len, I4, J, R)) fun x6_ h6 => ?_)
  obtain ⟨k6_0, k6_1⟩ := h6
  show P g X 3 23 [(0, .ref a0), (1, .int x1), (2, .int x2)] [.int x6_] _ _ (K, len, I4, J, R)
  refine r_iconst hC (v := (-1)) dX10_readFresh_23 (by decide) (by decide) (fun x7_ e7 t7 => ?_)
  refine r_icmp_eq hC (tgt := 32) dX10_readFresh_24 (by decide) (fun c8 => ?_) (fun c8 => ?_)
  · refine r_aload_n hC dX10_readFresh_32 0 rfl ?_
    refine r_geti hC 9 (ci := 10) rfl u10_in (by decide) mT_5_4 dX10_readFresh_33 ka0 rfl rfl (fun x9_ e9 => ?_)
    have f9 : x9_.toInt = (I4 a0 9).toInt := by rw [e9]
    refine r_iconst hC (v := (5)) dX10_readFresh_36 (by decide) (by decide) (fun x10_ e10 t10 => ?_)
    refine r_icmp_ne hC (tgt := 41) dX10_readFresh_37 (by decide) (fun c11 => ?_) (fun c11 => ?_)
    · exfalso; omega
    have hv9 : I4 a0 9 = x9_ := e9.symm
    have hv9t : (I4 a0 9).toInt = x9_.toInt := congrArg Int32.toInt hv9
    exact r_vret hC hQ hlk hr (by decide) (by decide) dX10_readFresh_40 ⟨_, _, rfl, rfl, ⟨hs4, hF4, hFJ, (by omega), (by omega), (by omega), (by exact om4)⟩⟩
  · refine r_aload_n hC dX10_readFresh_27 0 rfl ?_
    refine r_iconst hC (v := (3)) dX10_readFresh_28 (by decide) (by decide) (fun x12_ e12 t12 => ?_)
    refine r_callV hC (As := [.int x12_]) (rest := []) (ci := 10) (e_X10_wrong g (xL X) K len I4 J R hs4 a0 ka0 x12_ (by omega)) mT_5_236 mT_1_10 mT_5_233 mT_5_235 mP_55 okX10_wrong ⟨by decide, by decide⟩ rfl (by show kO (K a0) = _; rw [ka0]; rfl) rfl rfl (Nat.le_of_ble_eq_true rfl) ⟨by decide, by decide⟩ dX10_readFresh_29 (aV1 (F := fun st M => P g X 3 32 [(0, .ref a0), (1, .int x1), (2, .int x2)] st _ _ M) (M := (K, len, I4, J, R)) fun I13 h13 => ?_)
    obtain ⟨hs13, hf13, k13_0, k13_1, k13_2⟩ := h13
    show P g X 3 32 [(0, .ref a0), (1, .int x1), (2, .int x2)] [] _ _ (K, len, I13, J, R)
    have hF13 : Fr K [(10, 10), (11, 8), (11, 9), (11, 10), (11, 11), (11, 12), (11, 13), (83, 999), (84, 999)] I I13 := hF4.trans hf13 rfl rfl
    have om13 := om4.mv hf13 rfl
    refine r_aload_n hC dX10_readFresh_32 0 rfl ?_
    refine r_geti hC 9 (ci := 10) rfl u10_in (by decide) mT_5_4 dX10_readFresh_33 ka0 rfl rfl (fun x14_ e14 => ?_)
    have f14 : x14_.toInt = (I13 a0 9).toInt := by rw [e14]
    refine r_iconst hC (v := (5)) dX10_readFresh_36 (by decide) (by decide) (fun x15_ e15 t15 => ?_)
    refine r_icmp_ne hC (tgt := 41) dX10_readFresh_37 (by decide) (fun c16 => ?_) (fun c16 => ?_)
    · exfalso; omega
    have hv9 : I13 a0 9 = x14_ := e14.symm
    have hv9t : (I13 a0 9).toInt = x14_.toInt := congrArg Int32.toInt hv9
    exact r_vret hC hQ hlk hr (by decide) (by decide) dX10_readFresh_40 ⟨_, _, rfl, rfl, ⟨hs13, hF13, hFJ, (by omega), (by omega), (by omega), (by exact om13)⟩⟩
set_option maxHeartbeats 4000000 in
set_option maxRecDepth 100000 in
theorem f_X9_find (g : GG) (l : Launch) (K len : Nat → Nat) (I : Nat → Nat → Int32) (J : Nat → Nat → Int64) (R : Nat → Nat → Option Nat) (hs : Sf K len I R) (a0 : Nat) (ka0 : K a0 = 10) (y1 : Int64) (nr : Nat) (hnr : R a0 25 = some nr) (knr : K nr = 82) (lnr : len nr = 19) (D : DD) (hN : ∀ j : Nat, (j : Int) < (I a0 10).toInt → (J nr j).toInt = D 20 j) : Ct g l yX9_find cX9_find 4 (Option.some Jvm.ClassFile.FieldType.int) rmX9_find [.ref a0, .long y1] (K, len, I, J, R) (pI0 (K, len, I, J, R) (fun r => ((r.toInt = -1 ∧ ∀ j : Nat, (j : Int) < (I a0 10).toInt → D 20 j ≠ y1.toInt) ∨ (0 ≤ r.toInt ∧ r.toInt < (I a0 10).toInt ∧ D 20 r.toInt.toNat = y1.toInt)))) := by
  refine Ct_intro (by decide +kernel) (Nat.le_of_ble_eq_true rfl) (fun X hC hL hKK hNm hr hlk hQ => ?_)
  subst hL
  have hC : Cx g X cX9_find "HillTapModel$Hill" 4 rmX9_find := hC
  show P g X 4 0 [(0, .ref a0), (1, .long y1)] [] 0 0 (K, len, I, J, R)
  have hF : Fr K [] I I := Fr.refl
  obtain ⟨N0, eN0⟩ : ∃ z : Int32, z = I a0 10 := ⟨_, rfl⟩
  have fN0 : N0.toInt = (I a0 10).toInt := by rw [eN0]
  have rN0 := hs.rng ka0 rfl eN0
  refine r_iconst hC (v := (0)) dX9_find_0 (by decide) (by decide) (fun x1_ e1 t1 => ?_)
  refine r_istore_n hC (lv' := [(3, .int x1_), (0, .ref a0), (1, .long y1)]) dX9_find_1 (by decide) rfl ?_
  have LP2 : ∀ (mu : Nat) (x2_3 : Int32) (v2_0 : 0 ≤ x2_3.toInt) (v2_1 : x2_3.toInt ≤ (I a0 10).toInt) (v2_2 : ∀ j : Nat, 0 ≤ j → (j : Int) < x2_3.toInt → D 20 j ≠ y1.toInt), (19 - x2_3.toInt).toNat = mu → P g X 4 2 [(0, .ref a0), (1, .long y1), (3, .int x2_3)] [] 0 0 (K, len, I, J, R) := by
    intro mu; induction mu using Nat.strongRecOn with | ind mu ih => ?_
    intro x2_3 v2_0 v2_1 v2_2 hmu
    have ih2 := ih
    clear ih
    have hmu2 := hmu
    clear hmu
    refine r_iload_n hC dX9_find_2 2 rfl ?_
    refine r_aload_n hC dX9_find_3 0 rfl ?_
    refine r_geti hC 10 (ci := 9) rfl u9_in (by decide) mT_5_103 dX9_find_4 ka0 rfl rfl (fun x3_ e3 => ?_)
    have r3 := hs.rng ka0 rfl e3
    have f3 : x3_.toInt = (I a0 10).toInt := by rw [e3]
    have w3 : x3_ = N0 := by rw [e3]; exact eN0.symm
    have wt3 : x3_.toInt = N0.toInt := by rw [w3]
    refine r_icmp_ge hC (tgt := 29) dX9_find_7 (by decide) (fun c4 => ?_) (fun c4 => ?_)
    · refine r_iconst hC (v := (-1)) dX9_find_29 (by decide) (by decide) (fun x5_ e5 t5 => ?_)
      exact r_iret hC hQ hlk hr rfl (by decide) (by decide) dX9_find_30 ⟨_, rfl, rfl, (by first | exact Or.inl ⟨by omega, fun j h9 => v2_2 j (Nat.zero_le j) (by omega)⟩ | exact Or.inr ⟨by omega, by omega, by omega⟩)⟩
    · refine r_aload_n hC dX9_find_10 0 rfl ?_
      refine r_getr hC 25 (ci := 9) rfl u9_in (by decide) mT_5_133 dX9_find_11 ka0 rfl rfl hnr ?_
      refine r_iload_n hC dX9_find_14 2 rfl ?_
      refine x_laload hC knr lnr (by decide) rfl rfl dX9_find_15 (by omega) (by omega) (fun y6_ e6 => ?_)
      refine r_lload_n hC dX9_find_16 1 rfl ?_
      have hy1 : y6_.toInt = D 20 x2_3.toInt.toNat := by have h9 := clampI (i := x2_3) (by omega); rw [e6, hN _ (by omega), show x2_3.toNatClampNeg = x2_3.toInt.toNat by omega]
      refine r_lcmp hC dX9_find_17 (fun x7_ e7 => ?_)
      have hz1 : x7_.toInt = 0 → y6_.toInt = y1.toInt := fun h9 => lgc_eq (by rw [← e7]; exact h9)
      have hz2 : x7_.toInt ≠ 0 → y6_.toInt ≠ y1.toInt := fun h9 => lgc_ne (by rw [← e7]; exact h9)
      refine r_if_ne hC (tgt := 23) dX9_find_18 (by decide) (fun c8 => ?_) (fun c8 => ?_)
      · obtain ⟨x9_, e9⟩ : ∃ z : Int32, z = x2_3 + Int32.ofInt (1) := ⟨_, rfl⟩
        refine r_iinc hC (j := 2) (v := x9_) (lv' := [(3, .int x9_), (0, .ref a0), (1, .long y1)]) dX9_find_23 rfl (by rw [e9]) (by decide) rfl ?_
        try have t9 : x9_.toInt = x2_3.toInt + (1) := by rw [e9]; exact (ti_add (b := Int32.ofInt (1)) (by show _ ≤ _ + (1 : Int); omega) (by show _ + (1 : Int) ≤ _; omega))
        refine r_goto hC (tgt := 2) dX9_find_26 (by decide) ?_
        refine r_sub [1, 2, 0] rfl ?_
        exact ih2 ((19 - x9_.toInt).toNat) (by omega) x9_ (by omega) (by omega) (by first | exact all_0 (P := fun j => D 20 j ≠ y1.toInt) (q := 0) (by omega) | exact all_s (P := fun j => D 20 j ≠ y1.toInt) v2_2 (by omega) (by omega) (by show D 20 _ ≠ _; omega)) rfl
      · refine r_iload_n hC dX9_find_21 2 rfl ?_
        exact r_iret hC hQ hlk hr rfl (by decide) (by decide) dX9_find_22 ⟨_, rfl, rfl, (by first | exact Or.inl ⟨by omega, fun j h9 => v2_2 j (Nat.zero_le j) (by omega)⟩ | exact Or.inr ⟨by omega, by omega, by omega⟩)⟩
  refine r_sub [1, 2, 0] rfl ?_
  exact LP2 _ x1_ (by omega) (by omega) (by first | exact all_0 (P := fun j => D 20 j ≠ y1.toInt) (q := 0) (by omega) | exact all_s (P := fun j => D 20 j ≠ y1.toInt) v2_2 (by omega) (by omega) (by show D 20 _ ≠ _; omega)) rfl
set_option maxHeartbeats 4000000 in
set_option maxRecDepth 100000 in
theorem f_X10_readFresh (g : GG) (l : Launch) (K len : Nat → Nat) (I : Nat → Nat → Int32) (J : Nat → Nat → Int64) (R : Nat → Nat → Option Nat) (hs : Sf K len I R) (a0 : Nat) (ka0 : K a0 = 11) (x1 : Int32) (x2 : Int32) (rm : Nat) (hbr : R a0 4 = some rm) (krm : K rm = 10) (mt : Nat) (hmt : R a0 5 = some mt) (kmt : K mt = 49) (nmt : len mt = 900) (B : Nat → Int) (n : Nat) (hB : BT B n mt I) (hBr : ∀ j : Nat, j < n → -128 ≤ B j ∧ B j ≤ 127) (hn : n ≤ 900) (p : Nat) (hp : p ≤ n) (tkm : TkM B n a0 p I J) (nr : Nat) (hnr : R rm 25 = some nr) (knr : K nr = 82) (lnr : len nr = 19) (ns : Nat) (hns : R rm 26 = some ns) (kns : K ns = 83) (lns : len ns = 19) (nn : Nat) (hnn : R rm 27 = some nn) (knn : K nn = 84) (lnn : len nn = 19) (D : DD) (hD : DI D) (sm10 : (I rm 10).toInt = D 0 10) (nm : NmM D nr J) (p0 : D 0 10 ≤ 18) : Ct g l yX10_readFresh cX10_readFresh 3 (Option.none : Option Jvm.ClassFile.FieldType) rmX10_readFresh [.ref a0, .int x1, .int x2] (K, len, I, J, R) (pV2 (K, len, I, J, R) (fun I' J' => Sf K len I' R ∧ Fr K [(10, 10), (11, 8), (11, 9), (11, 10), (11, 11), (11, 12), (11, 13), (83, 999), (84, 999)] I I' ∧ Fr K [(11, 14), (82, 999)] J J' ∧ ((sFresh B n p D = .ok (adN D (vl B n p), nx B n p) ∧ TkM B n a0 (nx B n p) I' J' ∧ NmM (adN D (vl B n p)) nr J' ∧ (I' rm 10).toInt = D 0 10 + 1 ∧ NsO D ns I I' ∧ (I' ns (D 0 10).toNat).toInt = x1.toInt ∧ NsO D nn I I' ∧ (I' nn (D 0 10).toNat).toInt = x2.toInt ∧ I' a0 12 = I a0 12) ∨ (∃ (kf : Int) (qf : Nat), sFresh B n p D = .error (kf, qf) ∧ (I' a0 9).toInt = 5 ∧ (I' a0 12).toInt = kf ∧ (I' a0 13).toInt = qf)) ∧ (OM K rm I I'))) := by
  refine Ct_intro (by decide +kernel) (Nat.le_of_ble_eq_true rfl) (fun X hC hL hKK hNm hr hlk hQ => ?_)
  subst hL
  have hC : Cx g X cX10_readFresh "HillTapModel" 3 rmX10_readFresh := hC
  show P g X 3 0 [(0, .ref a0), (1, .int x1), (2, .int x2)] [] 0 0 (K, len, I, J, R)
  have hF : Fr K [(10, 10), (11, 8), (11, 9), (11, 10), (11, 11), (11, 12), (11, 13), (83, 999), (84, 999)] I I := Fr.refl
  have hFJ : Fr K [(11, 14), (82, 999)] J J := Fr.refl
  have ek1 := tkm.e1
  have ek2 := tkm.e2
  have ek3 := tkm.e3
  have ek4 := tkm.e4
  have ek10 := tkm.2.1
  have ek11 := tkm.2.2.2.2.2
  obtain ⟨hD0, ⟨hD1, hD2⟩, ⟨hD3, hD4⟩, ⟨hD5, hD6⟩, ⟨hD7, hD8⟩, ⟨hD9, hD10⟩, hD11, hD12⟩ := id hD
  have ek14 := tkm.2.2.2.2.1
  have b_x1 := ti_rng x1
  have b_x2 := ti_rng x2
  obtain ⟨N0, eN0⟩ : ∃ z : Int32, z = I rm 10 := ⟨_, rfl⟩
  have fN0 : N0.toInt = (I rm 10).toInt := by rw [eN0]
  have rN0 := hs.rng krm rfl eN0
  have om : OM K rm I I := OM.rf
  refine r_aload_n hC dX10_readFresh_0 0 rfl ?_
  refine r_callV hC (As := []) (rest := []) (ci := 10) (f_X10_isName g (xL X) K len I J R hs a0 ka0 B n p hp tkm) mT_6_27 mT_1_10 mT_6_24 mT_6_26 mP_61 okX10_isName ⟨by decide, by decide⟩ rfl (by show kO (K a0) = _; rw [ka0]; rfl) rfl rfl (Nat.le_of_ble_eq_true rfl) ⟨by decide, by decide⟩ dX10_readFresh_1 (aI0 (F := fun st M => P g X 3 4 [(0, .ref a0), (1, .int x1), (2, .int x2)] st _ _ M) (M := (K, len, I, J, R)) fun x1_ h1 => ?_)
  have k1_0 := h1
  clear h1
  show P g X 3 4 [(0, .ref a0), (1, .int x1), (2, .int x2)] [.int x1_] _ _ (K, len, I, J, R)
  rcases k1_0 with ⟨hr1, hw1⟩ | ⟨hr1, hw1⟩
  · refine r_if_ne hC (tgt := 12) dX10_readFresh_4 (by decide) (fun c2 => ?_) (fun c2 => ?_)
    rotate_left
    · exfalso; omega
    refine r_aload_n hC dX10_readFresh_12 0 rfl ?_
    refine r_getr hC 4 (ci := 10) rfl u10_in (by decide) mT_4_239 dX10_readFresh_13 ka0 rfl rfl hbr ?_
    have hkd1 : kd B n p = 1 := hw1.1
    refine r_aload_n hC dX10_readFresh_16 0 rfl ?_
    refine r_getj hC 14 (ci := 10) rfl u10_in (by decide) mT_5_9 dX10_readFresh_17 ka0 rfl rfl (fun y3_ e3 => ?_)
    have fj3 : y3_.toInt = (J a0 14).toInt := by rw [e3]
    refine r_callV hC (As := [.long y3_]) (rest := []) (ci := 9) (f_X9_find g (xL X) K len I J R hs rm krm y3_ nr hnr knr lnr D (fun j h9 => nm j (by omega))) mT_6_36 mT_1_17 mT_6_33 mT_6_34 mT_6_35 okX9_find ⟨by decide, by decide⟩ rfl (by show kO (K rm) = _; rw [krm]; rfl) rfl rfl (Nat.le_of_ble_eq_true rfl) ⟨by decide, by decide⟩ dX10_readFresh_20 (aI0 (F := fun st M => P g X 3 23 [(0, .ref a0), (1, .int x1), (2, .int x2)] st _ _ M) (M := (K, len, I, J, R)) fun x4_ h4 => ?_)
    have k4_0 := h4
    clear h4
    show P g X 3 23 [(0, .ref a0), (1, .int x1), (2, .int x2)] [.int x4_] _ _ (K, len, I, J, R)
    rcases k4_0 with ⟨hr4, hn4⟩ | ⟨hr4, hq4, hn4⟩
    · refine r_iconst hC (v := (-1)) dX10_readFresh_23 (by decide) (by decide) (fun x5_ e5 t5 => ?_)
      refine r_icmp_eq hC (tgt := 32) dX10_readFresh_24 (by decide) (fun c6 => ?_) (fun c6 => ?_)
      rotate_left
      · exfalso; omega
      refine r_aload_n hC dX10_readFresh_32 0 rfl ?_
      have n5_33 := tkm.e5
      refine r_geti hC 9 (ci := 10) rfl u10_in (by decide) mT_5_4 dX10_readFresh_33 ka0 rfl rfl (fun x7_ e7 => ?_)
      have f7 : x7_.toInt = (I a0 9).toInt := by rw [e7]
      refine r_iconst hC (v := (5)) dX10_readFresh_36 (by decide) (by decide) (fun x8_ e8 t8 => ?_)
      refine r_icmp_ne hC (tgt := 41) dX10_readFresh_37 (by decide) (fun c9 => ?_) (fun c9 => ?_)
      rotate_left
      · exfalso; omega
      refine r_aload_n hC dX10_readFresh_41 0 rfl ?_
      refine r_getr hC 4 (ci := 10) rfl u10_in (by decide) mT_4_239 dX10_readFresh_42 ka0 rfl rfl hbr ?_
      refine r_getrN hC 25 (ci := 9) rfl u9_in (by decide) nF_25 dX10_readFresh_45 krm rfl rfl hnr ?_
      refine r_aload_n hC dX10_readFresh_48 0 rfl ?_
      refine r_getr hC 4 (ci := 10) rfl u10_in (by decide) mT_4_239 dX10_readFresh_49 ka0 rfl rfl hbr ?_
      refine r_getiN hC 10 (ci := 9) rfl u9_in (by decide) nF_10 dX10_readFresh_52 krm rfl rfl (fun x10_ e10 => ?_)
      have r10 := hs.rng krm rfl e10
      have f10 : x10_.toInt = (I rm 10).toInt := by rw [e10]
      have w10 : x10_ = N0 := by rw [e10]; exact eN0.symm
      have wt10 : x10_.toInt = N0.toInt := by rw [w10]
      refine r_aload_n hC dX10_readFresh_55 0 rfl ?_
      refine r_getj hC 14 (ci := 10) rfl u10_in (by decide) mT_5_9 dX10_readFresh_56 ka0 rfl rfl (fun y11_ e11 => ?_)
      have fj11 : y11_.toInt = (J a0 14).toInt := by rw [e11]
      refine x_lastore hC knr lnr (by decide) rfl rfl dX10_readFresh_59 (by omega) (by omega) (fun J12 eJ12 => ?_)
      have hFJ12 := hFJ.put eJ12 knr (inS_arr rfl _)
      have tkp12 := tkm.putJ eJ12 knr ka0 (by decide)
      have nm12 := nm.add (v := vl B n p) eJ12 (by have h9 := clampI (i := x10_) (by omega); omega) (by omega)
      refine r_aload_n hC dX10_readFresh_60 0 rfl ?_
      refine r_getr hC 4 (ci := 10) rfl u10_in (by decide) mT_4_239 dX10_readFresh_61 ka0 rfl rfl hbr ?_
      refine r_getrN hC 26 (ci := 9) rfl u9_in (by decide) nF_26 dX10_readFresh_64 krm rfl rfl hns ?_
      refine r_aload_n hC dX10_readFresh_67 0 rfl ?_
      refine r_getr hC 4 (ci := 10) rfl u10_in (by decide) mT_4_239 dX10_readFresh_68 ka0 rfl rfl hbr ?_
      refine r_getiN hC 10 (ci := 9) rfl u9_in (by decide) nF_10 dX10_readFresh_71 krm rfl rfl (fun x13_ e13 => ?_)
      have r13 := hs.rng krm rfl e13
      have f13 : x13_.toInt = (I rm 10).toInt := by rw [e13]
      have w13 : x13_ = x10_ := by rw [e13]; exact e10.symm
      have wt13 : x13_.toInt = x10_.toInt := by rw [w13]
      refine r_iload_n hC dX10_readFresh_74 1 rfl ?_
      refine x_iastore hC kns lns (by decide) rfl rfl dX10_readFresh_75 (by omega) (by omega) (fun I14 eI14 => ?_)
      have hs14 := hs.put0 eI14 kns (rng_arr (by decide) _) rfl (xF_arr (by decide) _) (by decide)
      have hF14 := hF.put eI14 kns (inS_arr rfl _)
      have tkp14 := tkp12.put eI14 kns ka0 (by decide)
      have fp14 : I14 a0 12 = I a0 12 := (up2_kk eI14 kns ka0 (by decide)).trans rfl
      have om14 := om.put eI14 kns (by first | exact Or.inr rfl | exact Or.inl (by decide) | exact Or.inl (by omega))
      have od14 : NsO D ns I I14 := fun i hi => by rw [eI14, up2_ne _ _ (Or.inr (by have h9 := clampI (i := x13_) (by omega); omega))]
      have on14 : NsO D nn I I14 := NsO.putG (I := I) (fun i hi => rfl) eI14 kns knn (by decide)
      have nw14 : (I14 ns (D 0 10).toNat).toInt = x1.toInt := by rw [eI14, show (D 0 10).toNat = x13_.toNatClampNeg from (by have h9 := clampI (i := x13_) (by omega); omega), up2_self]
      refine r_aload_n hC dX10_readFresh_76 0 rfl ?_
      refine r_getr hC 4 (ci := 10) rfl u10_in (by decide) mT_4_239 dX10_readFresh_77 ka0 rfl rfl hbr ?_
      refine r_getrN hC 27 (ci := 9) rfl u9_in (by decide) nF_27 dX10_readFresh_80 krm rfl rfl hnn ?_
      refine r_aload_n hC dX10_readFresh_83 0 rfl ?_
      refine r_getr hC 4 (ci := 10) rfl u10_in (by decide) mT_4_239 dX10_readFresh_84 ka0 rfl rfl hbr ?_
      refine r_getiN hC 10 (ci := 9) rfl u9_in (by decide) nF_10 dX10_readFresh_87 krm rfl rfl (fun x15_ e15 => ?_)
      have r15 := hs14.rng krm rfl e15
      have f15 : x15_.toInt = (I14 rm 10).toInt := by rw [e15]
      have w15 : x15_ = x13_ := by rw [e15]; exact (Eq.trans (up2_kk eI14 kns krm (by decide)) e13.symm)
      have wt15 : x15_.toInt = x13_.toInt := by rw [w15]
      refine r_iload_n hC dX10_readFresh_90 2 rfl ?_
      refine x_iastore hC knn lnn (by decide) rfl rfl dX10_readFresh_91 (by omega) (by omega) (fun I16 eI16 => ?_)
      have hs16 := hs14.put0 eI16 knn (rng_arr (by decide) _) rfl (xF_arr (by decide) _) (by decide)
      have hF16 := hF14.put eI16 knn (inS_arr rfl _)
      have tkp16 := tkp14.put eI16 knn ka0 (by decide)
      have fp16 : I16 a0 12 = I a0 12 := (up2_kk eI16 knn ka0 (by decide)).trans fp14
      have nw16 := nwput nw14 eI16 knn kns (by decide)
      have om16 := om14.put eI16 knn (by first | exact Or.inr rfl | exact Or.inl (by decide) | exact Or.inl (by omega))
      have od16 := od14.put eI16 knn kns (by decide)
      have on16 : NsO D nn I I16 := fun i hi => by rw [eI16, up2_ne _ _ (Or.inr (by have h9 := clampI (i := x15_) (by omega); omega))]; exact on14 i hi
      have nv16 : NvA I16 nn (D 0 10).toNat x2.toInt := by unfold NvA; rw [eI16, show (D 0 10).toNat = x15_.toNatClampNeg from (by have h9 := clampI (i := x15_) (by omega); omega), up2_self]
      refine r_aload_n hC dX10_readFresh_92 0 rfl ?_
      refine r_getr hC 4 (ci := 10) rfl u10_in (by decide) mT_4_239 dX10_readFresh_93 ka0 rfl rfl hbr ?_
      refine r_dup hC dX10_readFresh_96 rfl ?_
      refine r_getiN hC 10 (ci := 9) rfl u9_in (by decide) nF_10 dX10_readFresh_97 krm rfl rfl (fun x17_ e17 => ?_)
      have r17 := hs16.rng krm rfl e17
      have f17 : x17_.toInt = (I16 rm 10).toInt := by rw [e17]
      have w17 : x17_ = x15_ := by rw [e17]; exact (Eq.trans (up2_kk eI16 knn krm (by decide)) e15.symm)
      have wt17 : x17_.toInt = x15_.toInt := by rw [w17]
      refine r_iconst hC (v := (1)) dX10_readFresh_100 (by decide) (by decide) (fun x18_ e18 t18 => ?_)
      refine r_iadd hC dX10_readFresh_101 (fun x19_ e19 => ?_)
      try have t19 : x19_.toInt = x17_.toInt + x18_.toInt := by rw [e19]; exact ti_add (by omega) (by omega)
      refine r_putiN hC 10 (ci := 9) rfl u9_in tyX9_ok nmX9 (by decide) nF_10 rfl rfl rfl dX10_readFresh_102 krm rfl rfl (fun I20 eI20 => ?_)
      have hs20 := hs16.put1 eI20 krm rfl (by omega) (by omega) rfl rfl (by decide)
      have hF20 := hF16.put eI20 krm rfl
      have tkp20 := tkp16.put eI20 krm ka0 (by decide)
      have fp20 : I20 a0 12 = I a0 12 := (up2_kk eI20 krm ka0 (by decide)).trans fp16
      have nw20 := nwput nw16 eI20 krm kns (by decide)
      have om20 := om16.put eI20 krm (by first | exact Or.inr rfl | exact Or.inl (by decide) | exact Or.inl (by omega))
      have od20 := od16.put eI20 krm kns (by decide)
      have on20 := on16.putG eI20 krm knn (by decide)
      have nv20 := nvput nv16 eI20 krm knn (by decide)
      refine r_aload_n hC dX10_readFresh_105 0 rfl ?_
      refine r_callV hC (As := []) (rest := []) (ci := 10) (f_X10_goesOn g (xL X) K len I20 J12 R hs20 a0 ka0 mt hmt kmt nmt B n (hB.mv9 hF20 kmt (fun _ => rfl)) hBr hn (nx B n p) (nx_le hp).2 (tkp20.e5) (tkp20.2.2.1 (by first | omega | (rw [hw1.1]; decide))) (tkp20.2.2.2.1)) mT_5_199 mT_1_10 mT_5_196 mT_5_198 mP_49 okX10_goesOn ⟨by decide, by decide⟩ rfl (by show kO (K a0) = _; rw [ka0]; rfl) rfl rfl (Nat.le_of_ble_eq_true rfl) ⟨by decide, by decide⟩ dX10_readFresh_106 (aV2 (F := fun st M => P g X 3 109 [(0, .ref a0), (1, .int x1), (2, .int x2)] st _ _ M) (M := (K, len, I20, J12, R)) fun I21 J21 h21 => ?_)
      obtain ⟨hs21, hf21, hfj21, k21_0⟩ := h21
      show P g X 3 109 [(0, .ref a0), (1, .int x1), (2, .int x2)] [] _ _ (K, len, I21, J21, R)
      have hF21 : Fr K [(10, 10), (11, 8), (11, 9), (11, 10), (11, 11), (11, 12), (11, 13), (83, 999), (84, 999)] I I21 := hF20.trans hf21 rfl rfl
      have hFJ21 : Fr K [(11, 14), (82, 999)] J J21 := hFJ12.trans hfj21 rfl rfl
      have fp21 : I21 a0 12 = I a0 12 := (hf21.get ka0 rfl).trans fp20
      have nw21 := nwmv nw20 hf21 kns rfl
      have nm21 := nm12.mv hfj21 knr (fun _ => rfl)
      have om21 := om20.mv hf21 rfl
      have od21 := od20.mv hf21 kns (fun _ => rfl)
      have on21 := on20.mvG hf21 knn (fun _ => rfl)
      have nv21 := nvmv nv20 hf21 knn (by rfl)
      have hvN : I21 rm 10 = x19_ := (Eq.trans (hf21.get krm rfl) (by rw [eI20]; exact up2_self _ _ _ _))
      have hvNt : (I21 rm 10).toInt = x19_.toInt := congrArg Int32.toInt hvN
      exact r_vret hC hQ hlk hr (by decide) (by decide) dX10_readFresh_109 ⟨_, _, rfl, rfl, ⟨hs21, hF21, hFJ21, (by first | exact Or.inl ⟨by unfold sFresh; rw [pif_t hw1, pif_f (fun h9 => by obtain ⟨j, h1, h2⟩ := h9; exact hn4 j (by omega) (by omega))], k21_0, nm21, by omega, od21, nw21, on21, nv21, fp21⟩ | exact Or.inr ⟨1, pl B n p, by unfold sFresh; rw [pif_f hw1], by omega, by omega, by omega⟩ | exact Or.inr ⟨3, pl B n p, by unfold sFresh; rw [pif_t hw1, pif_t ⟨_, by omega, hn4.trans (by omega)⟩], by omega, by omega, by omega⟩), (by exact om21)⟩⟩
    · refine r_iconst hC (v := (-1)) dX10_readFresh_23 (by decide) (by decide) (fun x22_ e22 t22 => ?_)
      refine r_icmp_eq hC (tgt := 32) dX10_readFresh_24 (by decide) (fun c23 => ?_) (fun c23 => ?_)
      · refine r_aload_n hC dX10_readFresh_32 0 rfl ?_
        have n5_33 := tkm.e5
        refine r_geti hC 9 (ci := 10) rfl u10_in (by decide) mT_5_4 dX10_readFresh_33 ka0 rfl rfl (fun x24_ e24 => ?_)
        have f24 : x24_.toInt = (I a0 9).toInt := by rw [e24]
        refine r_iconst hC (v := (5)) dX10_readFresh_36 (by decide) (by decide) (fun x25_ e25 t25 => ?_)
        refine r_icmp_ne hC (tgt := 41) dX10_readFresh_37 (by decide) (fun c26 => ?_) (fun c26 => ?_)
        rotate_left
        · exfalso; omega
        refine r_aload_n hC dX10_readFresh_41 0 rfl ?_
        refine r_getr hC 4 (ci := 10) rfl u10_in (by decide) mT_4_239 dX10_readFresh_42 ka0 rfl rfl hbr ?_
        refine r_getrN hC 25 (ci := 9) rfl u9_in (by decide) nF_25 dX10_readFresh_45 krm rfl rfl hnr ?_
        refine r_aload_n hC dX10_readFresh_48 0 rfl ?_
        refine r_getr hC 4 (ci := 10) rfl u10_in (by decide) mT_4_239 dX10_readFresh_49 ka0 rfl rfl hbr ?_
        refine r_getiN hC 10 (ci := 9) rfl u9_in (by decide) nF_10 dX10_readFresh_52 krm rfl rfl (fun x27_ e27 => ?_)
        have r27 := hs.rng krm rfl e27
        have f27 : x27_.toInt = (I rm 10).toInt := by rw [e27]
        have w27 : x27_ = N0 := by rw [e27]; exact eN0.symm
        have wt27 : x27_.toInt = N0.toInt := by rw [w27]
        refine r_aload_n hC dX10_readFresh_55 0 rfl ?_
        refine r_getj hC 14 (ci := 10) rfl u10_in (by decide) mT_5_9 dX10_readFresh_56 ka0 rfl rfl (fun y28_ e28 => ?_)
        have fj28 : y28_.toInt = (J a0 14).toInt := by rw [e28]
        refine x_lastore hC knr lnr (by decide) rfl rfl dX10_readFresh_59 (by omega) (by omega) (fun J29 eJ29 => ?_)
        have hFJ29 := hFJ.put eJ29 knr (inS_arr rfl _)
        have tkp29 := tkm.putJ eJ29 knr ka0 (by decide)
        have nm29 := nm.add (v := vl B n p) eJ29 (by have h9 := clampI (i := x27_) (by omega); omega) (by omega)
        refine r_aload_n hC dX10_readFresh_60 0 rfl ?_
        refine r_getr hC 4 (ci := 10) rfl u10_in (by decide) mT_4_239 dX10_readFresh_61 ka0 rfl rfl hbr ?_
        refine r_getrN hC 26 (ci := 9) rfl u9_in (by decide) nF_26 dX10_readFresh_64 krm rfl rfl hns ?_
        refine r_aload_n hC dX10_readFresh_67 0 rfl ?_
        refine r_getr hC 4 (ci := 10) rfl u10_in (by decide) mT_4_239 dX10_readFresh_68 ka0 rfl rfl hbr ?_
        refine r_getiN hC 10 (ci := 9) rfl u9_in (by decide) nF_10 dX10_readFresh_71 krm rfl rfl (fun x30_ e30 => ?_)
        have r30 := hs.rng krm rfl e30
        have f30 : x30_.toInt = (I rm 10).toInt := by rw [e30]
        have w30 : x30_ = x27_ := by rw [e30]; exact e27.symm
        have wt30 : x30_.toInt = x27_.toInt := by rw [w30]
        refine r_iload_n hC dX10_readFresh_74 1 rfl ?_
        refine x_iastore hC kns lns (by decide) rfl rfl dX10_readFresh_75 (by omega) (by omega) (fun I31 eI31 => ?_)
        have hs31 := hs.put0 eI31 kns (rng_arr (by decide) _) rfl (xF_arr (by decide) _) (by decide)
        have hF31 := hF.put eI31 kns (inS_arr rfl _)
        have tkp31 := tkp29.put eI31 kns ka0 (by decide)
        have fp31 : I31 a0 12 = I a0 12 := (up2_kk eI31 kns ka0 (by decide)).trans rfl
        have om31 := om.put eI31 kns (by first | exact Or.inr rfl | exact Or.inl (by decide) | exact Or.inl (by omega))
        have od31 : NsO D ns I I31 := fun i hi => by rw [eI31, up2_ne _ _ (Or.inr (by have h9 := clampI (i := x30_) (by omega); omega))]
        have on31 : NsO D nn I I31 := NsO.putG (I := I) (fun i hi => rfl) eI31 kns knn (by decide)
        have nw31 : (I31 ns (D 0 10).toNat).toInt = x1.toInt := by rw [eI31, show (D 0 10).toNat = x30_.toNatClampNeg from (by have h9 := clampI (i := x30_) (by omega); omega), up2_self]
        refine r_aload_n hC dX10_readFresh_76 0 rfl ?_
        refine r_getr hC 4 (ci := 10) rfl u10_in (by decide) mT_4_239 dX10_readFresh_77 ka0 rfl rfl hbr ?_
        refine r_getrN hC 27 (ci := 9) rfl u9_in (by decide) nF_27 dX10_readFresh_80 krm rfl rfl hnn ?_
        refine r_aload_n hC dX10_readFresh_83 0 rfl ?_
        refine r_getr hC 4 (ci := 10) rfl u10_in (by decide) mT_4_239 dX10_readFresh_84 ka0 rfl rfl hbr ?_
        refine r_getiN hC 10 (ci := 9) rfl u9_in (by decide) nF_10 dX10_readFresh_87 krm rfl rfl (fun x32_ e32 => ?_)
        have r32 := hs31.rng krm rfl e32
        have f32 : x32_.toInt = (I31 rm 10).toInt := by rw [e32]
        have w32 : x32_ = x30_ := by rw [e32]; exact (Eq.trans (up2_kk eI31 kns krm (by decide)) e30.symm)
        have wt32 : x32_.toInt = x30_.toInt := by rw [w32]
        refine r_iload_n hC dX10_readFresh_90 2 rfl ?_
        refine x_iastore hC knn lnn (by decide) rfl rfl dX10_readFresh_91 (by omega) (by omega) (fun I33 eI33 => ?_)
        have hs33 := hs31.put0 eI33 knn (rng_arr (by decide) _) rfl (xF_arr (by decide) _) (by decide)
        have hF33 := hF31.put eI33 knn (inS_arr rfl _)
        have tkp33 := tkp31.put eI33 knn ka0 (by decide)
        have fp33 : I33 a0 12 = I a0 12 := (up2_kk eI33 knn ka0 (by decide)).trans fp31
        have nw33 := nwput nw31 eI33 knn kns (by decide)
        have om33 := om31.put eI33 knn (by first | exact Or.inr rfl | exact Or.inl (by decide) | exact Or.inl (by omega))
        have od33 := od31.put eI33 knn kns (by decide)
        have on33 : NsO D nn I I33 := fun i hi => by rw [eI33, up2_ne _ _ (Or.inr (by have h9 := clampI (i := x32_) (by omega); omega))]; exact on31 i hi
        have nv33 : NvA I33 nn (D 0 10).toNat x2.toInt := by unfold NvA; rw [eI33, show (D 0 10).toNat = x32_.toNatClampNeg from (by have h9 := clampI (i := x32_) (by omega); omega), up2_self]
        refine r_aload_n hC dX10_readFresh_92 0 rfl ?_
        refine r_getr hC 4 (ci := 10) rfl u10_in (by decide) mT_4_239 dX10_readFresh_93 ka0 rfl rfl hbr ?_
        refine r_dup hC dX10_readFresh_96 rfl ?_
        refine r_getiN hC 10 (ci := 9) rfl u9_in (by decide) nF_10 dX10_readFresh_97 krm rfl rfl (fun x34_ e34 => ?_)
        have r34 := hs33.rng krm rfl e34
        have f34 : x34_.toInt = (I33 rm 10).toInt := by rw [e34]
        have w34 : x34_ = x32_ := by rw [e34]; exact (Eq.trans (up2_kk eI33 knn krm (by decide)) e32.symm)
        have wt34 : x34_.toInt = x32_.toInt := by rw [w34]
        refine r_iconst hC (v := (1)) dX10_readFresh_100 (by decide) (by decide) (fun x35_ e35 t35 => ?_)
        refine r_iadd hC dX10_readFresh_101 (fun x36_ e36 => ?_)
        try have t36 : x36_.toInt = x34_.toInt + x35_.toInt := by rw [e36]; exact ti_add (by omega) (by omega)
        refine r_putiN hC 10 (ci := 9) rfl u9_in tyX9_ok nmX9 (by decide) nF_10 rfl rfl rfl dX10_readFresh_102 krm rfl rfl (fun I37 eI37 => ?_)
        have hs37 := hs33.put1 eI37 krm rfl (by omega) (by omega) rfl rfl (by decide)
        have hF37 := hF33.put eI37 krm rfl
        have tkp37 := tkp33.put eI37 krm ka0 (by decide)
        have fp37 : I37 a0 12 = I a0 12 := (up2_kk eI37 krm ka0 (by decide)).trans fp33
        have nw37 := nwput nw33 eI37 krm kns (by decide)
        have om37 := om33.put eI37 krm (by first | exact Or.inr rfl | exact Or.inl (by decide) | exact Or.inl (by omega))
        have od37 := od33.put eI37 krm kns (by decide)
        have on37 := on33.putG eI37 krm knn (by decide)
        have nv37 := nvput nv33 eI37 krm knn (by decide)
        refine r_aload_n hC dX10_readFresh_105 0 rfl ?_
        refine r_callV hC (As := []) (rest := []) (ci := 10) (f_X10_goesOn g (xL X) K len I37 J29 R hs37 a0 ka0 mt hmt kmt nmt B n (hB.mv9 hF37 kmt (fun _ => rfl)) hBr hn (nx B n p) (nx_le hp).2 (tkp37.e5) (tkp37.2.2.1 (by first | omega | (rw [hw1.1]; decide))) (tkp37.2.2.2.1)) mT_5_199 mT_1_10 mT_5_196 mT_5_198 mP_49 okX10_goesOn ⟨by decide, by decide⟩ rfl (by show kO (K a0) = _; rw [ka0]; rfl) rfl rfl (Nat.le_of_ble_eq_true rfl) ⟨by decide, by decide⟩ dX10_readFresh_106 (aV2 (F := fun st M => P g X 3 109 [(0, .ref a0), (1, .int x1), (2, .int x2)] st _ _ M) (M := (K, len, I37, J29, R)) fun I38 J38 h38 => ?_)
        obtain ⟨hs38, hf38, hfj38, k38_0⟩ := h38
        show P g X 3 109 [(0, .ref a0), (1, .int x1), (2, .int x2)] [] _ _ (K, len, I38, J38, R)
        have hF38 : Fr K [(10, 10), (11, 8), (11, 9), (11, 10), (11, 11), (11, 12), (11, 13), (83, 999), (84, 999)] I I38 := hF37.trans hf38 rfl rfl
        have hFJ38 : Fr K [(11, 14), (82, 999)] J J38 := hFJ29.trans hfj38 rfl rfl
        have fp38 : I38 a0 12 = I a0 12 := (hf38.get ka0 rfl).trans fp37
        have nw38 := nwmv nw37 hf38 kns rfl
        have nm38 := nm29.mv hfj38 knr (fun _ => rfl)
        have om38 := om37.mv hf38 rfl
        have od38 := od37.mv hf38 kns (fun _ => rfl)
        have on38 := on37.mvG hf38 knn (fun _ => rfl)
        have nv38 := nvmv nv37 hf38 knn (by rfl)
        have hvN : I38 rm 10 = x36_ := (Eq.trans (hf38.get krm rfl) (by rw [eI37]; exact up2_self _ _ _ _))
        have hvNt : (I38 rm 10).toInt = x36_.toInt := congrArg Int32.toInt hvN
        exact r_vret hC hQ hlk hr (by decide) (by decide) dX10_readFresh_109 ⟨_, _, rfl, rfl, ⟨hs38, hF38, hFJ38, (by first | exact Or.inl ⟨by unfold sFresh; rw [pif_t hw1, pif_f (fun h9 => by obtain ⟨j, h1, h2⟩ := h9; exact hn4 j (by omega) (by omega))], k38_0, nm38, by omega, od38, nw38, on38, nv38, fp38⟩ | exact Or.inr ⟨1, pl B n p, by unfold sFresh; rw [pif_f hw1], by omega, by omega, by omega⟩ | exact Or.inr ⟨3, pl B n p, by unfold sFresh; rw [pif_t hw1, pif_t ⟨_, by omega, hn4.trans (by omega)⟩], by omega, by omega, by omega⟩), (by exact om38)⟩⟩
      · refine r_aload_n hC dX10_readFresh_27 0 rfl ?_
        refine r_iconst hC (v := (3)) dX10_readFresh_28 (by decide) (by decide) (fun x39_ e39 t39 => ?_)
        refine r_callV hC (As := [.int x39_]) (rest := []) (ci := 10) (f_X10_wrong g (xL X) K len I J R hs a0 ka0 x39_ (tkm.e5)) mT_5_236 mT_1_10 mT_5_233 mT_5_235 mP_55 okX10_wrong ⟨by decide, by decide⟩ rfl (by show kO (K a0) = _; rw [ka0]; rfl) rfl rfl (Nat.le_of_ble_eq_true rfl) ⟨by decide, by decide⟩ dX10_readFresh_29 (aV1 (F := fun st M => P g X 3 32 [(0, .ref a0), (1, .int x1), (2, .int x2)] st _ _ M) (M := (K, len, I, J, R)) fun I40 h40 => ?_)
        obtain ⟨hs40, hf40, k40_0, k40_1, k40_2⟩ := h40
        show P g X 3 32 [(0, .ref a0), (1, .int x1), (2, .int x2)] [] _ _ (K, len, I40, J, R)
        have hF40 : Fr K [(10, 10), (11, 8), (11, 9), (11, 10), (11, 11), (11, 12), (11, 13), (83, 999), (84, 999)] I I40 := hF.trans hf40 rfl rfl
        have om40 := om.mv hf40 rfl
        have hwp40 := tkm.2.1
        refine r_aload_n hC dX10_readFresh_32 0 rfl ?_
        refine r_geti hC 9 (ci := 10) rfl u10_in (by decide) mT_5_4 dX10_readFresh_33 ka0 rfl rfl (fun x41_ e41 => ?_)
        have f41 : x41_.toInt = (I40 a0 9).toInt := by rw [e41]
        refine r_iconst hC (v := (5)) dX10_readFresh_36 (by decide) (by decide) (fun x42_ e42 t42 => ?_)
        refine r_icmp_ne hC (tgt := 41) dX10_readFresh_37 (by decide) (fun c43 => ?_) (fun c43 => ?_)
        · exfalso; omega
        have hvN : I40 rm 10 = N0 := (Eq.trans (hf40.get krm rfl) eN0.symm)
        have hvNt : (I40 rm 10).toInt = N0.toInt := congrArg Int32.toInt hvN
        exact r_vret hC hQ hlk hr (by decide) (by decide) dX10_readFresh_40 ⟨_, _, rfl, rfl, ⟨hs40, hF40, hFJ, (by first | exact Or.inl ⟨by unfold sFresh; rw [pif_t hw1, pif_f (fun h9 => by obtain ⟨j, h1, h2⟩ := h9; exact hn4 j (by omega) (by omega))], tkm, nm, by omega, NOod, NOnw, NOon, NOnv, rfl⟩ | exact Or.inr ⟨1, pl B n p, by unfold sFresh; rw [pif_f hw1], by omega, by omega, by omega⟩ | exact Or.inr ⟨3, pl B n p, by unfold sFresh; rw [pif_t hw1, pif_t ⟨_, by omega, hn4.trans (by omega)⟩], by omega, by omega, by omega⟩), (by exact om40)⟩⟩
  · refine r_if_ne hC (tgt := 12) dX10_readFresh_4 (by decide) (fun c44 => ?_) (fun c44 => ?_)
    · exfalso; omega
    refine r_aload_n hC dX10_readFresh_7 0 rfl ?_
    refine r_iconst hC (v := (1)) dX10_readFresh_8 (by decide) (by decide) (fun x45_ e45 t45 => ?_)
    refine r_callV hC (As := [.int x45_]) (rest := []) (ci := 10) (f_X10_wrong g (xL X) K len I J R hs a0 ka0 x45_ (tkm.e5)) mT_5_236 mT_1_10 mT_5_233 mT_5_235 mP_55 okX10_wrong ⟨by decide, by decide⟩ rfl (by show kO (K a0) = _; rw [ka0]; rfl) rfl rfl (Nat.le_of_ble_eq_true rfl) ⟨by decide, by decide⟩ dX10_readFresh_9 (aV1 (F := fun st M => P g X 3 12 [(0, .ref a0), (1, .int x1), (2, .int x2)] st _ _ M) (M := (K, len, I, J, R)) fun I46 h46 => ?_)
    obtain ⟨hs46, hf46, k46_0, k46_1, k46_2⟩ := h46
    show P g X 3 12 [(0, .ref a0), (1, .int x1), (2, .int x2)] [] _ _ (K, len, I46, J, R)
    have hF46 : Fr K [(10, 10), (11, 8), (11, 9), (11, 10), (11, 11), (11, 12), (11, 13), (83, 999), (84, 999)] I I46 := hF.trans hf46 rfl rfl
    have om46 := om.mv hf46 rfl
    have hwp46 := tkm.2.1
    refine r_aload_n hC dX10_readFresh_12 0 rfl ?_
    refine r_getr hC 4 (ci := 10) rfl u10_in (by decide) mT_4_239 dX10_readFresh_13 ka0 rfl rfl hbr ?_
    refine r_aload_n hC dX10_readFresh_16 0 rfl ?_
    refine r_getj hC 14 (ci := 10) rfl u10_in (by decide) mT_5_9 dX10_readFresh_17 ka0 rfl rfl (fun y47_ e47 => ?_)
    have fj47 : y47_.toInt = (J a0 14).toInt := by rw [e47]
    refine r_callV hC (As := [.long y47_]) (rest := []) (ci := 9) (c_X9_find g (xL X) K len I46 J R hs46 rm krm y47_) mT_6_36 mT_1_17 mT_6_33 mT_6_34 mT_6_35 okX9_find ⟨by decide, by decide⟩ rfl (by show kO (K rm) = _; rw [krm]; rfl) rfl rfl (Nat.le_of_ble_eq_true rfl) ⟨by decide, by decide⟩ dX10_readFresh_20 (aI0 (F := fun st M => P g X 3 23 [(0, .ref a0), (1, .int x1), (2, .int x2)] st _ _ M) (M := (K, len, I46, J, R)) fun x48_ h48 => ?_)
    obtain ⟨k48_0, k48_1⟩ := h48
    show P g X 3 23 [(0, .ref a0), (1, .int x1), (2, .int x2)] [.int x48_] _ _ (K, len, I46, J, R)
    refine r_iconst hC (v := (-1)) dX10_readFresh_23 (by decide) (by decide) (fun x49_ e49 t49 => ?_)
    refine r_icmp_eq hC (tgt := 32) dX10_readFresh_24 (by decide) (fun c50 => ?_) (fun c50 => ?_)
    · refine r_aload_n hC dX10_readFresh_32 0 rfl ?_
      refine r_geti hC 9 (ci := 10) rfl u10_in (by decide) mT_5_4 dX10_readFresh_33 ka0 rfl rfl (fun x51_ e51 => ?_)
      have f51 : x51_.toInt = (I46 a0 9).toInt := by rw [e51]
      refine r_iconst hC (v := (5)) dX10_readFresh_36 (by decide) (by decide) (fun x52_ e52 t52 => ?_)
      refine r_icmp_ne hC (tgt := 41) dX10_readFresh_37 (by decide) (fun c53 => ?_) (fun c53 => ?_)
      · exfalso; omega
      have hvN : I46 rm 10 = N0 := (Eq.trans (hf46.get krm rfl) eN0.symm)
      have hvNt : (I46 rm 10).toInt = N0.toInt := congrArg Int32.toInt hvN
      exact r_vret hC hQ hlk hr (by decide) (by decide) dX10_readFresh_40 ⟨_, _, rfl, rfl, ⟨hs46, hF46, hFJ, (by first | exact Or.inl ⟨by unfold sFresh; rw [pif_t hw1, pif_f (fun h9 => by obtain ⟨j, h1, h2⟩ := h9; exact NOfr j (by omega) (by omega))], tkm, nm, by omega, NOod, NOnw, NOon, NOnv, rfl⟩ | exact Or.inr ⟨1, pl B n p, by unfold sFresh; rw [pif_f hw1], by omega, by omega, by omega⟩ | exact Or.inr ⟨3, pl B n p, by unfold sFresh; rw [pif_t hw1, pif_t ⟨_, by omega, NOfr.trans (by omega)⟩], by omega, by omega, by omega⟩), (by exact om46)⟩⟩
    · refine r_aload_n hC dX10_readFresh_27 0 rfl ?_
      refine r_iconst hC (v := (3)) dX10_readFresh_28 (by decide) (by decide) (fun x54_ e54 t54 => ?_)
      refine r_callV hC (As := [.int x54_]) (rest := []) (ci := 10) (e_X10_wrong g (xL X) K len I46 J R hs46 a0 ka0 x54_ (by omega)) mT_5_236 mT_1_10 mT_5_233 mT_5_235 mP_55 okX10_wrong ⟨by decide, by decide⟩ rfl (by show kO (K a0) = _; rw [ka0]; rfl) rfl rfl (Nat.le_of_ble_eq_true rfl) ⟨by decide, by decide⟩ dX10_readFresh_29 (aV1 (F := fun st M => P g X 3 32 [(0, .ref a0), (1, .int x1), (2, .int x2)] st _ _ M) (M := (K, len, I46, J, R)) fun I55 h55 => ?_)
      obtain ⟨hs55, hf55, k55_0, k55_1, k55_2⟩ := h55
      show P g X 3 32 [(0, .ref a0), (1, .int x1), (2, .int x2)] [] _ _ (K, len, I55, J, R)
      have hF55 : Fr K [(10, 10), (11, 8), (11, 9), (11, 10), (11, 11), (11, 12), (11, 13), (83, 999), (84, 999)] I I55 := hF46.trans hf55 rfl rfl
      have om55 := om46.mv hf55 rfl
      refine r_aload_n hC dX10_readFresh_32 0 rfl ?_
      refine r_geti hC 9 (ci := 10) rfl u10_in (by decide) mT_5_4 dX10_readFresh_33 ka0 rfl rfl (fun x56_ e56 => ?_)
      have f56 : x56_.toInt = (I55 a0 9).toInt := by rw [e56]
      refine r_iconst hC (v := (5)) dX10_readFresh_36 (by decide) (by decide) (fun x57_ e57 t57 => ?_)
      refine r_icmp_ne hC (tgt := 41) dX10_readFresh_37 (by decide) (fun c58 => ?_) (fun c58 => ?_)
      · exfalso; omega
      have hvN : I55 rm 10 = N0 := (Eq.trans (hf55.get krm rfl) (Eq.trans (hf46.get krm rfl) eN0.symm))
      have hvNt : (I55 rm 10).toInt = N0.toInt := congrArg Int32.toInt hvN
      exact r_vret hC hQ hlk hr (by decide) (by decide) dX10_readFresh_40 ⟨_, _, rfl, rfl, ⟨hs55, hF55, hFJ, (by first | exact Or.inl ⟨by unfold sFresh; rw [pif_t hw1, pif_f (fun h9 => by obtain ⟨j, h1, h2⟩ := h9; exact NOfr j (by omega) (by omega))], tkm, nm, by omega, NOod, NOnw, NOon, NOnv, rfl⟩ | exact Or.inr ⟨1, pl B n p, by unfold sFresh; rw [pif_f hw1], by omega, by omega, by omega⟩ | exact Or.inr ⟨3, pl B n p, by unfold sFresh; rw [pif_t hw1, pif_t ⟨_, by omega, NOfr.trans (by omega)⟩], by omega, by omega, by omega⟩), (by exact om55)⟩⟩

