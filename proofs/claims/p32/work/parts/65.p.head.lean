def D0 : DD := fun _ _ => 0
/-- the class's hill, all of it; the reference's -/
def RpX (D : DD) (te nr pr hl lk : Nat) (R : Nat → Nat → Option Nat) (I : Nat → Nat → Int32) (J : Nat → Nat → Int64) : Prop := RpC D te nr pr hl lk I J ∧ RW (CC hl lk R) (cntN D) D I ∧ DJ D
def RpN (D : DD) (rm nr ns nn : Nat) (R : Nat → Nat → Option Nat) (I : Nat → Nat → Int32) (J : Nat → Nat → Int64) : Prop := RpM D rm nr ns I J ∧ NnI D ns nn I ∧ RW (CM rm R) (cntN D) D I ∧ DJ D
theorem fill_s {I I' : Nat → Nat → Int32} {a k : Nat} {x : Int32} {c i i2 : Int} (h : ∀ j : Nat, 0 ≤ j → (j : Int) < i → (I a j).toInt = c) (e : I' = up2 I a k x) (hk : (k : Int) = i) (hx : x.toInt = c) (h2 : i2 = i + 1) : ∀ j : Nat, 0 ≤ j → (j : Int) < i2 → (I' a j).toInt = c := by
  intro j _ hj
  by_cases hjk : j = k
  · subst hjk; rw [e, up2_self]; exact hx
  · rw [e, up2_ne _ _ (Or.inr hjk)]; exact h j (Nat.zero_le j) (by omega)
theorem fill_o {I0 I I' : Nat → Nat → Int32} {a k : Nat} {x : Int32} (h : ∀ b j, b ≠ a → I b j = I0 b j) (e : I' = up2 I a k x) : ∀ b j, b ≠ a → I' b j = I0 b j := fun b j hb => by rw [e, up2_ne _ _ (Or.inl hb)]; exact h b j hb
theorem OC.row {C : Nat → Nat → Nat → Nat → Prop} {q : Nat → Bool} {K : Nat → Nat} {I0 I I' : Nat → Nat → Int32} {a : Nat} (h : OC C q K I0 I) (hc : ∀ k, ∃ r j, C r j a k) (ho : ∀ b k, b ≠ a → I' b k = I b k) : OC C q K I0 I' := fun b k g1 g2 => by
  by_cases hb : b = a
  · subst hb; obtain ⟨r, j, h9⟩ := hc k; exact absurd h9 (g2 r j)
  · rw [ho b k hb]; exact h b k g1 g2
theorem cntD0 {r : Nat} (h : r ≠ 5) : cntN D0 r = 0 := by
  unfold cntN D0
  repeat' split
  all_goals (first | rfl | contradiction)
theorem RW_0 {hl lk : Nat} {R : Nat → Nat → Option Nat} {I : Nat → Nat → Int32} (h : ∀ b, R hl 5 = some b → ∀ j : Nat, j < 60 → (I b j).toInt = 0) : RW (CC hl lk R) (cntN D0) D0 I := by
  intro r j a k hC hj _
  show (I a k).toInt = 0
  by_cases hr : r = 5
  · subst hr
    have hj' : (j : Int) < 60 := hj
    rcases hC with ⟨o, f, h1, h2, h3⟩ | ⟨h1, h2, -⟩
    · cases h1; subst h3; exact h a h2 _ (by omega)
    · omega
  · rw [cntD0 hr] at hj; omega
theorem RM_0 {rm b : Nat} {R : Nat → Nat → Option Nat} {I : Nat → Nat → Int32} (hb : R rm 15 = some b) (h : ∀ j, I b j = 0) : RW (CM rm R) (cntN D0) D0 I := by
  intro r j a k hC hj _
  show (I a k).toInt = 0
  by_cases hr : r = 5
  · subst hr
    obtain ⟨-, -, -, h3⟩ := hC
    rw [hb] at h3; cases h3; rw [h]; rfl
  · rw [cntD0 hr] at hj; omega
theorem CC_ty {K len : Nat → Nat} {I : Nat → Nat → Int32} {R : Nat → Nat → Option Nat} {hl lk r j a k : Nat} (hs : Sf K len I R) (khl : K hl = 2) (klk : K lk = 3) (h : CC hl lk R r j a k) : (∃ f, R hl f = some a) ∨ (∃ f, R lk f = some a) ∨ ∃ sa, R hl 7 = some sa ∧ K sa = 45 ∧ R sa j = some a := by
  rcases h with ⟨o, f, h1, h2, h3⟩ | ⟨h1, h2, h3, sa, h4, h5⟩
  · cases o
    · exact Or.inr (Or.inl ⟨f, h2⟩)
    · exact Or.inl ⟨f, h2⟩
  · exact Or.inr (Or.inr ⟨sa, h4, refK hs (n := 6) khl (by decide) h4, h5⟩)
theorem CC_dis {K len : Nat → Nat} {I : Nat → Nat → Int32} {R : Nat → Nat → Option Nat} {h lk s ls r j a k r' j' : Nat} (hs : Sf K len I R) (kh : K h = 2) (klk : K lk = 3) (ks : K s = 2) (kls : K ls = 3) (hu : UU K R) (nhs : h ≠ s) (nls : lk ≠ ls) (hc : CC h lk R r j a k) : ¬ CC s ls R r' j' a k := by
  intro hc'
  have hk : K a ≠ 2 ∧ K a ≠ 6 ∧ K a ≠ 10 := by
    rw [(CC_k hs kh klk hc).1]
    unfold kdC
    repeat' split
    all_goals decide
  have own : ∀ b i c i', R b i = some a → R c i' = some a → b = c := fun b i c i' g1 g2 => (hu.2 b i c i' a g1 g2 hk.1 hk.2.1 hk.2.2).1
  have n23 : ∀ {x y z w : Nat}, K x = z → K y = w → z ≠ w → x ≠ y := fun g1 g2 g3 z => g3 (by rw [← g1, ← g2, z])
  rcases CC_ty hs kh klk hc with ⟨f, g1⟩ | ⟨f, g1⟩ | ⟨sa, g0, gk, g1⟩
  · rcases CC_ty hs ks kls hc' with ⟨f', g2⟩ | ⟨f', g2⟩ | ⟨sa', g0', gk', g2⟩
    · exact nhs (own _ _ _ _ g1 g2)
    · exact n23 kh kls (by decide) (own _ _ _ _ g1 g2)
    · exact n23 kh gk' (by decide) (own _ _ _ _ g1 g2)
  · rcases CC_ty hs ks kls hc' with ⟨f', g2⟩ | ⟨f', g2⟩ | ⟨sa', g0', gk', g2⟩
    · exact n23 klk ks (by decide) (own _ _ _ _ g1 g2)
    · exact nls (own _ _ _ _ g1 g2)
    · exact n23 klk gk' (by decide) (own _ _ _ _ g1 g2)
  · rcases CC_ty hs ks kls hc' with ⟨f', g2⟩ | ⟨f', g2⟩ | ⟨sa', g0', gk', g2⟩
    · exact n23 gk ks (by decide) (own _ _ _ _ g1 g2)
    · exact n23 gk kls (by decide) (own _ _ _ _ g1 g2)
    · have e : sa = sa' := own _ _ _ _ g1 g2
      subst e
      exact nhs (hu.2 h 7 s 7 sa g0 g0' (by rw [gk]; decide) (by rw [gk]; decide) (by rw [gk]; decide)).1
theorem RW.cR {K len : Nat → Nat} {I0 I : Nat → Nat → Int32} {R R2 : Nat → Nat → Option Nat} {hl lk : Nat} {N : Nat → Int} {D : DD} {l : List (Nat × Nat)} (h : RW (CC hl lk R) N D I) (hs : Sf K len I0 R) (khl : K hl = 2) (klk : K lk = 3) (hF : Fr K l R R2) (hl9 : l.all (fun e => e.1 == 9) = true) : RW (CC hl lk R2) N D I := by
  have e : ∀ b k, K b ≠ 9 → K b < 1000 → R2 b k = R b k := fun b k hb hb2 => by
    refine hF.get (q := K b) rfl ?_
    apply Classical.byContradiction; intro hc
    rw [Bool.not_eq_false] at hc
    obtain ⟨f, hf, h1⟩ := List.any_eq_true.mp hc
    have h2 := List.all_eq_true.mp hl9 f hf
    simp only [Bool.and_eq_true, Bool.or_eq_true, beq_iff_eq, Nat.ble_eq] at h1 h2
    omega
  intro r j a k hC
  refine h r j a k ?_
  rcases hC with ⟨o, f, h1, h2, h3⟩ | ⟨h1, h2, h3, sa, h4, h5⟩
  · refine Or.inl ⟨o, f, h1, ?_, h3⟩
    cases o
    · exact (e lk f (by rw [klk]; decide) (by rw [klk]; decide)).symm.trans h2
    · exact (e hl f (by rw [khl]; decide) (by rw [khl]; decide)).symm.trans h2
  · have h4' : R hl 7 = some sa := (e hl 7 (by rw [khl]; decide) (by rw [khl]; decide)).symm.trans h4
    have ksa := refK hs (n := 6) (t := 45) khl (by decide) h4'
    exact Or.inr ⟨h1, h2, h3, sa, h4', (e sa j (by rw [ksa]; decide) (by rw [ksa]; decide)).symm.trans h5⟩
noncomputable def FinH (B : Nat → Int) (n p : Nat) (D : DD) : ER DD := pif (kd B n p = 0) (pif (D 0 0 = 0 ∨ D 0 5 = 0 ∨ D 0 7 = 0) (.error (6, pl B n p)) (.ok D)) (.error (1, pl B n p))
section PHILL
variable {B : Nat → Int} {n p p' k : Nat} {D D' : DD} {kf : Int} {qf : Nat}
theorem DI_0 : DI D0 := by unfold DI D0; exact ⟨by decide, by decide, by decide, by decide, by decide, by decide, by decide⟩
theorem sHill_s (h : sLine B n p D = .ok (D', p')) (hk : kd B n p' = 3) : sHill B n (k + 1) p D = sHill B n k (nx B n p') D' := by
  simp only [sHill]; rw [h, bnd_ok, pif_t hk]
theorem sHill_f (h : sLine B n p D = .ok (D', p')) (hk : kd B n p' ≠ 3) : sHill B n (k + 1) p D = FinH B n p' D' := by
  simp only [sHill]; rw [h, bnd_ok, pif_f hk]; rfl
theorem sHill_e (h : sLine B n p D = .error (kf, qf)) : sHill B n (k + 1) p D = .error (kf, qf) := by
  simp only [sHill]; rw [h, bnd_er]
theorem FinH_1 (h : kd B n p ≠ 0) : FinH B n p D = .error (1, pl B n p) := by unfold FinH; rw [pif_f h]
theorem FinH_6 (h : kd B n p = 0) (hl : D 0 0 = 0 ∨ D 0 5 = 0 ∨ D 0 7 = 0) : FinH B n p D = .error (6, pl B n p) := by unfold FinH; rw [pif_t h, pif_t hl]
theorem FinH_k (h : kd B n p = 0) (hl : ¬ (D 0 0 = 0 ∨ D 0 5 = 0 ∨ D 0 7 = 0)) : FinH B n p D = .ok D := by unfold FinH; rw [pif_t h, pif_f hl]
/-- the class between two lines -/
def CL (B : Nat → Int) (n te tk nr pr hl lk : Nat) (R : Nat → Nat → Option Nat) (S : ER DD) (more lines : Int) (I : Nat → Nat → Int32) (J : Nat → Nat → Int64) : Prop :=
  (more = 1 ∧ ∃ (D : DD) (p : Nat), p ≤ n ∧ TkC B n tk p I J ∧ RpX D te nr pr hl lk R I J ∧ DI D ∧ lines ≤ p ∧ S = sHill B n (902 - lines.toNat) p D) ∨ (more = 0 ∧ ∃ (D : DD) (p : Nat), p ≤ n ∧ TkC B n tk p I J ∧ RpX D te nr pr hl lk R I J ∧ DI D ∧ kd B n p ≠ 3 ∧ S = FinH B n p D)
theorem CL.one {te tk nr pr hl lk : Nat} {R : Nat → Nat → Option Nat} {S : ER DD} {more lines : Int} {I : Nat → Nat → Int32} {J : Nat → Nat → Int64} (h : CL B n te tk nr pr hl lk R S more lines I J) (hm : more ≠ 0) : ∃ (D : DD) (p : Nat), p ≤ n ∧ TkC B n tk p I J ∧ RpX D te nr pr hl lk R I J ∧ DI D ∧ lines ≤ p ∧ S = sHill B n (902 - lines.toNat) p D := by
  rcases h with ⟨_, h⟩ | ⟨h1, _⟩
  · exact h
  · exact absurd h1 hm
theorem CL.zero {te tk nr pr hl lk : Nat} {R : Nat → Nat → Option Nat} {S : ER DD} {more lines : Int} {I : Nat → Nat → Int32} {J : Nat → Nat → Int64} (h : CL B n te tk nr pr hl lk R S more lines I J) (hm : more = 0) : ∃ (D : DD) (p : Nat), p ≤ n ∧ TkC B n tk p I J ∧ RpX D te nr pr hl lk R I J ∧ DI D ∧ kd B n p ≠ 3 ∧ S = FinH B n p D := by
  rcases h with ⟨h1, _⟩ | ⟨_, h⟩
  · rw [h1] at hm; exact absurd hm (by decide)
  · exact h
theorem CL.mk1 {te tk nr pr hl lk : Nat} {R : Nat → Nat → Option Nat} {S : ER DD} {m2 l1 l2 : Int} {I : Nat → Nat → Int32} {J : Nat → Nat → Int64} (hp : p ≤ n) (hS : S = sHill B n (902 - l1.toNat) p D) (hD : DI D) (h : sLine B n p D = .ok (D', p')) (hk : kd B n p' = 3) (hl2 : l2 = l1 + 1) (h0 : 0 ≤ l1) (h9 : l1 ≤ 900) (hlp : l1 ≤ p) (hm : m2 = 1) (htk : TkC B n tk (nx B n p') I J) (hr : RpX D' te nr pr hl lk R I J) : CL B n te tk nr pr hl lk R S m2 l2 I J := by
  obtain ⟨g1, g2⟩ := sLine_go hp hD h
  have g3 := nx_go (B := B) g1.2 (by rw [hk]; decide)
  refine Or.inl ⟨hm, D', nx B n p', g3.2, htk, hr, g2, by omega, ?_⟩
  rw [hS, show 902 - l1.toNat = (902 - l2.toNat) + 1 by omega]
  exact sHill_s h hk
theorem CL.mk0 {te tk nr pr hl lk : Nat} {R : Nat → Nat → Option Nat} {S : ER DD} {m2 l1 l2 : Int} {I : Nat → Nat → Int32} {J : Nat → Nat → Int64} (hp : p ≤ n) (hS : S = sHill B n (902 - l1.toNat) p D) (hD : DI D) (h : sLine B n p D = .ok (D', p')) (hk : kd B n p' ≠ 3) (h9 : l1 ≤ 900) (hm : m2 = 0) (htk : TkC B n tk p' I J) (hr : RpX D' te nr pr hl lk R I J) : CL B n te tk nr pr hl lk R S m2 l2 I J := by
  obtain ⟨g1, g2⟩ := sLine_go hp hD h
  refine Or.inr ⟨hm, D', p', g1.2, htk, hr, g2, hk, ?_⟩
  rw [hS, show 902 - l1.toNat = (902 - l1.toNat - 1) + 1 by omega]
  exact sHill_f h hk
theorem CL.er {S : ER DD} {l1 : Int} (hS : S = sHill B n (902 - l1.toNat) p D) (h : sLine B n p D = .error (kf, qf)) (h9 : l1 ≤ 900) : S = .error (kf, qf) := by
  rw [hS, show 902 - l1.toNat = (902 - l1.toNat - 1) + 1 by omega]
  exact sHill_e h
/-- the reference between two lines -/
def HM (B : Nat → Int) (n m rm nr ns nn : Nat) (R : Nat → Nat → Option Nat) (S : ER DD) (more : Int) (f : Nat) (I0 I : Nat → Nat → Int32) (J : Nat → Nat → Int64) : Prop :=
  (more = 1 ∧ ∃ (D : DD) (p : Nat), p ≤ n ∧ TkM B n m p I J ∧ RpN D rm nr ns nn R I J ∧ DI D ∧ I m 12 = I0 m 12 ∧ n < p + f ∧ S = sHill B n f p D) ∨ (more = 0 ∧ ((∃ (D : DD) (p : Nat), p ≤ n ∧ TkM B n m p I J ∧ RpN D rm nr ns nn R I J ∧ DI D ∧ I m 12 = I0 m 12 ∧ kd B n p ≠ 3 ∧ S = FinH B n p D) ∨ ((I m 9).toInt = 5 ∧ ∃ (kf : Int) (qf : Nat), S = .error (kf, qf) ∧ (I m 12).toInt = kf ∧ (I m 13).toInt = qf)))
theorem HM.one {m rm nr ns nn f : Nat} {R : Nat → Nat → Option Nat} {S : ER DD} {more : Int} {I0 I : Nat → Nat → Int32} {J : Nat → Nat → Int64} (h : HM B n m rm nr ns nn R S more f I0 I J) (hm : more ≠ 0) : ∃ (D : DD) (p : Nat), p ≤ n ∧ TkM B n m p I J ∧ RpN D rm nr ns nn R I J ∧ DI D ∧ I m 12 = I0 m 12 ∧ n < p + f ∧ S = sHill B n f p D := by
  rcases h with ⟨_, h⟩ | ⟨h1, _⟩
  · exact h
  · exact absurd h1 hm
theorem HM.zero {m rm nr ns nn f : Nat} {R : Nat → Nat → Option Nat} {S : ER DD} {more : Int} {I0 I : Nat → Nat → Int32} {J : Nat → Nat → Int64} (h : HM B n m rm nr ns nn R S more f I0 I J) (hm : more = 0) : (∃ (D : DD) (p : Nat), p ≤ n ∧ TkM B n m p I J ∧ RpN D rm nr ns nn R I J ∧ DI D ∧ I m 12 = I0 m 12 ∧ kd B n p ≠ 3 ∧ S = FinH B n p D) ∨ ((I m 9).toInt = 5 ∧ ∃ (kf : Int) (qf : Nat), S = .error (kf, qf) ∧ (I m 12).toInt = kf ∧ (I m 13).toInt = qf) := by
  rcases h with ⟨h1, _⟩ | ⟨_, h⟩
  · rw [h1] at hm; exact absurd hm (by decide)
  · exact h
theorem HM.mk1 {m rm nr ns nn f : Nat} {R : Nat → Nat → Option Nat} {S : ER DD} {m2 : Int} {I0 I : Nat → Nat → Int32} {J : Nat → Nat → Int64} (hp : p ≤ n) (hf : n < p + f) (hS : S = sHill B n f p D) (hD : DI D) (h : sLine B n p D = .ok (D', p')) (hk : kd B n p' = 3) (hm : m2 = 1) (htk : TkM B n m (nx B n p') I J) (hr : RpN D' rm nr ns nn R I J) (h12 : I m 12 = I0 m 12) : HM B n m rm nr ns nn R S m2 (f - 1) I0 I J := by
  obtain ⟨g1, g2⟩ := sLine_go hp hD h
  have g3 := nx_go (B := B) g1.2 (by rw [hk]; decide)
  refine Or.inl ⟨hm, D', nx B n p', g3.2, htk, hr, g2, h12, by omega, ?_⟩
  rw [hS, show f = (f - 1) + 1 by omega]
  exact sHill_s h hk
theorem HM.mk0 {m rm nr ns nn f f2 : Nat} {R : Nat → Nat → Option Nat} {S : ER DD} {m2 : Int} {I0 I : Nat → Nat → Int32} {J : Nat → Nat → Int64} (hp : p ≤ n) (hf : n < p + f) (hS : S = sHill B n f p D) (hD : DI D) (h : sLine B n p D = .ok (D', p')) (hk : kd B n p' ≠ 3) (hm : m2 = 0) (htk : TkM B n m p' I J) (hr : RpN D' rm nr ns nn R I J) (h12 : I m 12 = I0 m 12) : HM B n m rm nr ns nn R S m2 f2 I0 I J := by
  obtain ⟨g1, g2⟩ := sLine_go hp hD h
  refine Or.inr ⟨hm, Or.inl ⟨D', p', g1.2, htk, hr, g2, h12, hk, ?_⟩⟩
  rw [hS, show f = (f - 1) + 1 by omega]
  exact sHill_f h hk
theorem HM.mke {m rm nr ns nn f f2 : Nat} {R : Nat → Nat → Option Nat} {S : ER DD} {m2 : Int} {I0 I : Nat → Nat → Int32} {J : Nat → Nat → Int64} (hp : p ≤ n) (hf : n < p + f) (hS : S = sHill B n f p D) (h : sLine B n p D = .error (kf, qf)) (hm : m2 = 0) (h9 : (I m 9).toInt = 5) (h12 : (I m 12).toInt = kf) (h13 : (I m 13).toInt = qf) : HM B n m rm nr ns nn R S m2 f2 I0 I J := by
  refine Or.inr ⟨hm, Or.inr ⟨h9, kf, qf, ?_, h12, h13⟩⟩
  rw [hS, show f = (f - 1) + 1 by omega]
  exact sHill_e h
theorem SM_0 {rm : Nat} {I : Nat → Nat → Int32} (h : I rm = va_up (fun _ => 0) 0 (-1)) : SM D0 rm I := by
  have z : ∀ k, k ≠ 0 → (I rm k).toInt = 0 := fun k hk => by rw [h, va_up_ne _ _ hk]; rfl
  have z0 : (I rm 0).toInt = -1 := by rw [h, va_up_self]; rfl
  exact ⟨Or.inl ⟨rfl, z0⟩, z 3 (by decide), z 4 (by decide), z 5 (by decide), z 6 (by decide), z 7 (by decide), z 8 (by decide), z 9 (by decide), z 10 (by decide)⟩
theorem NmM_0 {nr : Nat} {J : Nat → Nat → Int64} : NmM D0 nr J := fun j hj => by have h : (j : Int) < 0 := hj; omega
theorem PgI_0 {ns : Nat} {I : Nat → Nat → Int32} : PgI D0 ns I := ⟨fun i hi => by have h : (i : Int) < 0 := hi; omega, fun j hj => by have h : (j : Int) < 0 := hj; omega⟩
theorem SM.mvI {rm : Nat} {K : Nat → Nat} {l : List (Nat × Nat)} {I I' : Nat → Nat → Int32} (h : SM D rm I) (hF : Fr K l I I') (hk : K rm = 10) (hin : ∀ k, k ≤ 10 → inS l 10 k = false) : SM D rm I' := by
  have e : ∀ k, k ≤ 10 → I' rm k = I rm k := fun k hk' => hF.get hk (hin k hk')
  obtain ⟨h0, h3, h4, h5, h6, h7, h8, h9, h10⟩ := h
  unfold SM
  rw [e 0 (by decide), e 1 (by decide), e 2 (by decide), e 3 (by decide), e 4 (by decide), e 5 (by decide), e 6 (by decide), e 7 (by decide), e 8 (by decide), e 9 (by decide), e 10 (by decide)]
  exact ⟨h0, h3, h4, h5, h6, h7, h8, h9, h10⟩
theorem SM.put {rm a k q : Nat} {v : Int32} {K : Nat → Nat} {I I' : Nat → Nat → Int32} (h : SM D rm I) (e : I' = up2 I a k v) (hq : K a = q) (hk : K rm = 10) (hne : q ≠ 10) : SM D rm I' := by
  have hn : ∀ j, I' rm j = I rm j := fun j => by rw [e, up2_ne _ _ (Or.inl (fun z => hne (by rw [← hq, ← z, hk])))]
  unfold SM at h ⊢
  simp only [hn]
  exact h
end PHILL
