def rel9 (D : DD) (r j : Nat) : Prop := r = 9 → (D 7 j = 2 ∨ D 7 j = 3 ∨ D 7 j = 4)
def RW (C : Nat → Nat → Nat → Nat → Prop) (N : Nat → Int) (D : DD) (I : Nat → Nat → Int32) : Prop := ∀ r j a k, C r j a k → (j : Int) < N r → rel9 D r j → (I a k).toInt = D r j
def upN (N : Nat → Int) (r : Nat) (v : Int) : Nat → Int := fun q => if q = r then v else N q
def cntN (D : DD) (r : Nat) : Int := if r = 1 ∨ r = 2 then D 0 5 else if r = 3 ∨ r = 4 then D 0 4 else if r = 5 then 60 else if r = 6 ∨ r = 7 ∨ r = 8 ∨ r = 9 then D 0 7 else if r = 10 ∨ r = 11 ∨ r = 12 then D 0 8 else if r = 13 ∨ r = 14 then D 0 9 else 0
def tC (r : Nat) : Option (Bool × Nat) := if r = 1 then some (true, 2) else if r = 2 then some (true, 3) else if r = 3 then some (false, 6) else if r = 4 then some (false, 7) else if r = 5 then some (true, 5) else if r = 10 then some (true, 9) else if r = 11 then some (true, 10) else if r = 12 then some (true, 11) else if r = 13 then some (true, 13) else if r = 14 then some (true, 14) else none
def CC (hl lk : Nat) (R : Nat → Nat → Option Nat) : Nat → Nat → Nat → Nat → Prop := fun r j a k => (∃ o f, tC r = some (o, f) ∧ R (if o then hl else lk) f = some a ∧ k = j) ∨ (k < 4 ∧ r = k + 6 ∧ j < 6 ∧ ∃ sa, R hl 7 = some sa ∧ R sa j = some a)
def CM (rm : Nat) (R : Nat → Nat → Option Nat) : Nat → Nat → Nat → Nat → Prop := fun r j a k => k = j ∧ 1 ≤ r ∧ r ≤ 14 ∧ R rm (r + 10) = some a
def qC (x : Nat) : Bool := x == 5 || (Nat.ble 55 x && Nat.ble x 64)
def qM (x : Nat) : Bool := (Nat.ble 70 x && Nat.ble x 81) || Nat.ble 1000 x
def okQ (q : Nat → Bool) (l : List (Nat × Nat)) : Bool := l.all (fun f => !(q f.1))
/-- one place a cell, one cell a place, and kinds of their own -/
def CX (C : Nat → Nat → Nat → Nat → Prop) (q : Nat → Bool) (K : Nat → Nat) : Prop := (∀ r j a k, C r j a k → q (K a) = true) ∧ (∀ r j a k r' j', C r j a k → C r' j' a k → r = r' ∧ j = j') ∧ (∀ r j a k a' k', C r j a k → C r j a' k' → a = a' ∧ k = k')
def OC (C : Nat → Nat → Nat → Nat → Prop) (q : Nat → Bool) (K : Nat → Nat) (I I' : Nat → Nat → Int32) : Prop := ∀ a k, q (K a) = true → (∀ r j, ¬ C r j a k) → I' a k = I a k
/-- what a hill's numbers keep to -/
def hiB (r : Nat) : Int := if r = 3 then 59 else if r = 6 then 99 else if r = 7 then 5 else if r = 8 then 99 else if r = 12 then 30 else if r = 13 then 4 else 999
def DJ (D : DD) : Prop := (∀ j : Nat, 0 ≤ D 5 j ∧ D 5 j ≤ 99 * D 0 6) ∧ (∀ i j : Nat, (i : Int) < D 0 5 → (j : Int) < D 0 5 → D 23 i = D 23 j → i = j) ∧ (∀ j : Nat, (j : Int) < D 0 5 → ∃ i : Nat, (i : Int) < D 0 10 ∧ D 20 i = D 23 j) ∧ (∀ r j : Nat, 1 ≤ r → r ≤ 14 → r ≠ 5 → 0 ≤ D r j ∧ D r j ≤ hiB r) ∧ (0 ≤ D 0 1 ∧ D 0 1 ≤ 500 ∧ 0 ≤ D 0 2 ∧ D 0 2 ≤ 50 ∧ 0 ≤ D 0 3 ∧ D 0 3 ≤ 999 ∧ (D 0 0 ≠ 0 → 1 ≤ D 0 2 ∧ D 0 1 ≤ D 0 3 ∧ 1 ≤ D 0 3)) ∧ (∀ j : Nat, (j : Int) < D 0 7 → 1 ≤ D 6 j ∧ (D 7 j = 2 → 1 ≤ D 9 j ∧ D 9 j ≤ 20) ∧ (D 7 j = 4 → 1 ≤ D 9 j ∧ D 9 j ≤ 99)) ∧ (∀ j : Nat, (j : Int) < D 0 8 → 1 ≤ D 11 j) ∧ (∀ j : Nat, (j : Int) < D 0 9 → D 13 j < D 0 5)
theorem qC_big : ∀ x, 1000 ≤ x → qC x = true → qC 1000 = true := by
  intro x hx h; simp only [qC, Bool.or_eq_true, Bool.and_eq_true, beq_iff_eq, Nat.ble_eq] at h; omega
theorem qM_big : ∀ x, 1000 ≤ x → qM x = true → qM 1000 = true := fun _ _ _ => rfl
section CELLS
variable {C : Nat → Nat → Nat → Nat → Prop} {q : Nat → Bool} {K len : Nat → Nat} {R : Nat → Nat → Option Nat} {I I' I0 : Nat → Nat → Int32} {N N' : Nat → Int} {D D' : DD} {l : List (Nat × Nat)} {hl lk rm : Nat}
theorem okQ_in (h : okQ q l = true) (hb : ∀ x, 1000 ≤ x → q x = true → q 1000 = true) {x : Nat} (hx : q x = true) (k : Nat) : inS l x k = false := by
  apply Classical.byContradiction; intro hc
  rw [Bool.not_eq_false] at hc
  obtain ⟨e, he, h1⟩ := List.any_eq_true.mp hc
  have h2 := List.all_eq_true.mp h e he
  simp only [Bool.and_eq_true, Bool.or_eq_true, beq_iff_eq, Nat.ble_eq, Bool.not_eq_true'] at h1 h2
  rcases h1.1 with h3 | h3
  · rw [h3, hx] at h2; cases h2
  · rw [h3.1, hb x h3.2 hx] at h2; cases h2
theorem RW.eq (h : RW C N D I) (he : ∀ r j a k, C r j a k → I' a k = I a k) : RW C N D I' := fun r j a k h1 h2 h3 => by rw [he r j a k h1]; exact h r j a k h1 h2 h3
theorem RW.mv (h : RW C N D I) (hx : CX C q K) (hb : ∀ x, 1000 ≤ x → q x = true → q 1000 = true) (hF : Fr K l I I') (ho : okQ q l = true) : RW C N D I' := h.eq fun r j a k h1 => hF.get rfl (okQ_in ho hb (hx.1 r j a k h1) k)
theorem RW.putO (h : RW C N D I) (hx : CX C q K) {a k x : Nat} {v : Int32} (e : I' = up2 I a k v) (hk : K a = x) (hq : q x = false) : RW C N D I' := h.eq fun r j b i h1 => by
  rw [e, up2_ne _ _ (Or.inl (fun z => ?_))]
  have := hx.1 r j b i h1
  rw [z, hk, hq] at this; cases this
theorem RW.put (h : RW C N D I) (hx : CX C q K) {r0 j0 a0 k0 : Nat} {v : Int32} {w : Int} (hc : C r0 j0 a0 k0) (e : I' = up2 I a0 k0 v) (hv : v.toInt = w) (hN : (j0 : Int) = N r0) (h7 : r0 = 7 → N 9 ≤ (j0 : Int)) : RW C (upN N r0 ((j0 : Int) + 1)) (upD D r0 j0 w) I' := by
  intro r j a k hC hj hr
  by_cases hak : a = a0 ∧ k = k0
  · obtain ⟨rfl, rfl⟩ := hak
    obtain ⟨rfl, rfl⟩ := hx.2.1 _ _ _ _ _ _ hC hc
    rw [e, up2_self, upD_s]; exact hv
  · have hrj : r ≠ r0 ∨ j ≠ j0 := by
      apply Classical.byContradiction; intro hn
      have h1 : r = r0 := by apply Classical.byContradiction; intro z; exact hn (Or.inl z)
      have h2 : j = j0 := by apply Classical.byContradiction; intro z; exact hn (Or.inr z)
      subst h1; subst h2
      exact hak (hx.2.2 _ _ _ _ _ _ hC hc)
    have hak' : a ≠ a0 ∨ k ≠ k0 := by
      by_cases h1 : a = a0
      · exact Or.inr fun h2 => hak ⟨h1, h2⟩
      · exact Or.inl h1
    rw [e, up2_ne _ _ hak', upD_n _ _ hrj]
    have hj' : (j : Int) < N r := by
      unfold upN at hj
      by_cases hrr : r = r0
      · rw [if_pos hrr] at hj; rw [hrr]
        have : j ≠ j0 := by rcases hrj with z | z; exact absurd hrr z; exact z
        omega
      · rw [if_neg hrr] at hj; exact hj
    refine h r j a k hC hj' (fun h9 => ?_)
    have := hr h9
    rwa [upD_n _ _ ?_] at this
    by_cases hz : 7 = r0
    · right; have h8 := h7 hz.symm; rw [h9] at hj'; omega
    · exact Or.inl hz
theorem RW.ovr (h : RW C N D I) (hx : CX C q K) {r0 j0 a0 k0 : Nat} {v : Int32} {w : Int} (hc : C r0 j0 a0 k0) (e : I' = up2 I a0 k0 v) (hv : v.toInt = w) (h7 : r0 ≠ 7) : RW C N (upD D r0 j0 w) I' := by
  intro r j a k hC hj hr
  by_cases hak : a = a0 ∧ k = k0
  · obtain ⟨rfl, rfl⟩ := hak
    obtain ⟨rfl, rfl⟩ := hx.2.1 _ _ _ _ _ _ hC hc
    rw [e, up2_self, upD_s]; exact hv
  · have hrj : r ≠ r0 ∨ j ≠ j0 := by
      apply Classical.byContradiction; intro hn
      have h1 : r = r0 := by apply Classical.byContradiction; intro z; exact hn (Or.inl z)
      have h2 : j = j0 := by apply Classical.byContradiction; intro z; exact hn (Or.inr z)
      subst h1; subst h2
      exact hak (hx.2.2 _ _ _ _ _ _ hC hc)
    have hak' : a ≠ a0 ∨ k ≠ k0 := by
      by_cases h1 : a = a0
      · exact Or.inr fun h2 => hak ⟨h1, h2⟩
      · exact Or.inl h1
    rw [e, up2_ne _ _ hak', upD_n _ _ hrj]
    refine h r j a k hC hj (fun h9 => ?_)
    have := hr h9
    rwa [upD_n _ _ (Or.inl (Ne.symm h7))] at this
theorem RW.cg (h : RW C N D I) (hd : ∀ r j : Nat, (j : Int) < N' r → rel9 D' r j → (j : Int) < N r ∧ rel9 D r j ∧ D' r j = D r j) : RW C N' D' I := fun r j a k h1 h2 h3 => by
  obtain ⟨g1, g2, g3⟩ := hd r j h2 h3
  rw [g3]; exact h r j a k h1 g1 g2
theorem OC.rf : OC C q K I I := fun _ _ _ _ => rfl
theorem OC.tr (h : OC C q K I0 I) (h2 : OC C q K I I') : OC C q K I0 I' := fun a k g1 g2 => (h2 a k g1 g2).trans (h a k g1 g2)
theorem OC.mv (h : OC C q K I0 I) (hb : ∀ x, 1000 ≤ x → q x = true → q 1000 = true) (hF : Fr K l I I') (ho : okQ q l = true) : OC C q K I0 I' := fun a k g1 g2 => (hF.get rfl (okQ_in ho hb g1 k)).trans (h a k g1 g2)
theorem OC.put (h : OC C q K I0 I) {r0 j0 a0 k0 : Nat} {v : Int32} (hc : C r0 j0 a0 k0) (e : I' = up2 I a0 k0 v) : OC C q K I0 I' := fun a k g1 g2 => by
  rw [e, up2_ne _ _ ?_]
  · exact h a k g1 g2
  · by_cases h1 : a = a0
    · exact Or.inr fun h2 => g2 r0 j0 (by rw [h1, h2]; exact hc)
    · exact Or.inl h1
theorem OC.putO (h : OC C q K I0 I) {a0 k0 x : Nat} {v : Int32} (e : I' = up2 I a0 k0 v) (hk : K a0 = x) (hq : q x = false) : OC C q K I0 I' := fun a k g1 g2 => by
  rw [e, up2_ne _ _ (Or.inl (fun z => ?_))]
  · exact h a k g1 g2
  · rw [z, hk, hq] at g1; cases g1
/-- the class's cells -/
theorem tC_cases {r f : Nat} {o : Bool} (h : tC r = some (o, f)) : (o = true ∧ ((r = 1 ∧ f = 2) ∨ (r = 2 ∧ f = 3) ∨ (r = 5 ∧ f = 5) ∨ (r = 10 ∧ f = 9) ∨ (r = 11 ∧ f = 10) ∨ (r = 12 ∧ f = 11) ∨ (r = 13 ∧ f = 13) ∨ (r = 14 ∧ f = 14))) ∨ (o = false ∧ ((r = 3 ∧ f = 6) ∨ (r = 4 ∧ f = 7))) := by
  unfold tC at h
  repeat' (split at h)
  all_goals (first | (cases h; simp_all) | cases h)
theorem refK (hs : Sf K len I R) {o x f t n a : Nat} (h1 : K o = x) (h2 : (f, t, n) ∈ refT x) (h3 : R o f = some a) : K a = t := by
  obtain ⟨b, g1, g2, -⟩ := hs.1 o (f, t, n) (by rw [h1]; exact h2)
  rw [h3] at g1; cases g1; exact g2
def kdC (r : Nat) : Nat := if r = 1 then 55 else if r = 2 then 56 else if r = 3 then 63 else if r = 4 then 64 else if r = 5 then 57 else if r = 10 then 58 else if r = 11 then 59 else if r = 12 then 60 else if r = 13 then 61 else if r = 14 then 62 else 5
theorem CC_k (hs : Sf K len I R) (khl : K hl = 2) (klk : K lk = 3) {r j a k : Nat} (h : CC hl lk R r j a k) : K a = kdC r ∧ ((tC r ≠ none ∧ k = j) ∨ (tC r = none ∧ r = k + 6 ∧ k < 4 ∧ ∃ sa, R hl 7 = some sa ∧ R sa j = some a ∧ j < 6)) := by
  rcases h with ⟨o, f, h1, h2, h3⟩ | ⟨h1, h2, h3, sa, h4, h5⟩
  · refine ⟨?_, Or.inl ⟨by rw [h1]; simp, h3⟩⟩
    rcases tC_cases h1 with ⟨rfl, hc⟩ | ⟨rfl, hc⟩
    · simp only [if_true] at h2
      rcases hc with ⟨rfl, rfl⟩ | ⟨rfl, rfl⟩ | ⟨rfl, rfl⟩ | ⟨rfl, rfl⟩ | ⟨rfl, rfl⟩ | ⟨rfl, rfl⟩ | ⟨rfl, rfl⟩ | ⟨rfl, rfl⟩
      · exact refK hs (n := 5) khl (by decide) h2
      · exact refK hs (n := 5) khl (by decide) h2
      · exact refK hs (n := 60) khl (by decide) h2
      · exact refK hs (n := 4) khl (by decide) h2
      · exact refK hs (n := 4) khl (by decide) h2
      · exact refK hs (n := 4) khl (by decide) h2
      · exact refK hs (n := 4) khl (by decide) h2
      · exact refK hs (n := 4) khl (by decide) h2
    · simp only [Bool.false_eq_true, if_false] at h2
      rcases hc with ⟨rfl, rfl⟩ | ⟨rfl, rfl⟩
      · exact refK hs (n := 16) klk (by decide) h2
      · exact refK hs (n := 16) klk (by decide) h2
  · have h6 : tC r = none := by
      have : k = 0 ∨ k = 1 ∨ k = 2 ∨ k = 3 := by omega
      rcases this with rfl | rfl | rfl | rfl <;> subst h2 <;> rfl
    refine ⟨?_, Or.inr ⟨h6, h2, h1, sa, h4, h5, h3⟩⟩
    have h7 : K a = 5 := by
      obtain ⟨b, g1, g2, -⟩ := hs.row khl 7 45 6 (by decide) (by decide)
      rw [h4] at g1; cases g1
      obtain ⟨c, g3, g4⟩ := hs.2.1.2.1 sa g2 j h3
      rw [h5] at g3; cases g3; exact g4
    rw [h7]
    have : k = 0 ∨ k = 1 ∨ k = 2 ∨ k = 3 := by omega
    rcases this with rfl | rfl | rfl | rfl <;> subst h2 <;> rfl
theorem tC_dom {r : Nat} (h : tC r ≠ none) : r = 1 ∨ r = 2 ∨ r = 3 ∨ r = 4 ∨ r = 5 ∨ r = 10 ∨ r = 11 ∨ r = 12 ∨ r = 13 ∨ r = 14 := by
  apply Classical.byContradiction; intro hc
  apply h; unfold tC
  rw [if_neg (by omega), if_neg (by omega), if_neg (by omega), if_neg (by omega), if_neg (by omega), if_neg (by omega), if_neg (by omega), if_neg (by omega), if_neg (by omega), if_neg (by omega)]
theorem kdC_inj {r r' : Nat} (h : kdC r = kdC r') (h1 : tC r ≠ none) : r = r' := by
  have key : ∀ x, kdC r' = x → (x = 55 → r' = 1) ∧ (x = 56 → r' = 2) ∧ (x = 63 → r' = 3) ∧ (x = 64 → r' = 4) ∧ (x = 57 → r' = 5) ∧ (x = 58 → r' = 10) ∧ (x = 59 → r' = 11) ∧ (x = 60 → r' = 12) ∧ (x = 61 → r' = 13) ∧ (x = 62 → r' = 14) := by
    intro x hx; unfold kdC at hx
    repeat' (split at hx)
    all_goals (subst hx; omega)
  obtain ⟨k1, k2, k3, k4, k5, k6, k7, k8, k9, k10⟩ := key _ h.symm
  rcases tC_dom h1 with rfl | rfl | rfl | rfl | rfl | rfl | rfl | rfl | rfl | rfl
  · exact (k1 rfl).symm
  · exact (k2 rfl).symm
  · exact (k3 rfl).symm
  · exact (k4 rfl).symm
  · exact (k5 rfl).symm
  · exact (k6 rfl).symm
  · exact (k7 rfl).symm
  · exact (k8 rfl).symm
  · exact (k9 rfl).symm
  · exact (k10 rfl).symm
theorem CC_x (hs : Sf K len I R) (khl : K hl = 2) (klk : K lk = 3) (hu : UU K R) : CX (CC hl lk R) qC K := by
  refine ⟨fun r j a k h => ?_, fun r j a k r' j' h h' => ?_, fun r j a k a' k' h h' => ?_⟩
  · rw [(CC_k hs khl klk h).1]
    unfold kdC
    repeat' split
    all_goals rfl
  · obtain ⟨g1, g2⟩ := CC_k hs khl klk h
    obtain ⟨g3, g4⟩ := CC_k hs khl klk h'
    have hkk : kdC r = kdC r' := by rw [← g1, ← g3]
    rcases g2 with ⟨n1, n2⟩ | ⟨n1, n2, n3, sa, n4, n5, n6⟩
    · have hr := kdC_inj hkk n1
      subst hr
      rcases g4 with ⟨m1, m2⟩ | ⟨m1, -⟩
      · exact ⟨rfl, by omega⟩
      · exact absurd m1 n1
    · rcases g4 with ⟨m1, m2⟩ | ⟨m1, m2, m3, sa', m4, m5, m6⟩
      · exact absurd n1 (kdC_inj hkk.symm m1 ▸ m1)
      · refine ⟨by omega, ?_⟩
        rw [n4] at m4; cases m4
        have hk5 : K a = 5 := by
          rw [g1, n2]
          have : k = 0 ∨ k = 1 ∨ k = 2 ∨ k = 3 := by omega
          rcases this with rfl | rfl | rfl | rfl <;> rfl
        exact (hu.2 sa j sa j' a n5 m5 (by rw [hk5]; decide) (by rw [hk5]; decide) (by rw [hk5]; decide)).2
  · rcases h with ⟨o, f, h1, h2, h3⟩ | ⟨h1, h2, h3, sa, h4, h5⟩
    · rcases h' with ⟨o', f', h1', h2', h3'⟩ | ⟨h1', h2', h3', sa', h4', h5'⟩
      · rw [h1] at h1'; cases h1'; rw [h2] at h2'; cases h2'; exact ⟨rfl, by omega⟩
      · exfalso
        have : k' = 0 ∨ k' = 1 ∨ k' = 2 ∨ k' = 3 := by omega
        rcases this with rfl | rfl | rfl | rfl <;> subst h2' <;> cases h1
    · rcases h' with ⟨o', f', h1', h2', h3'⟩ | ⟨h1', h2', h3', sa', h4', h5'⟩
      · exfalso
        have : k = 0 ∨ k = 1 ∨ k = 2 ∨ k = 3 := by omega
        rcases this with rfl | rfl | rfl | rfl <;> subst h2 <;> cases h1'
      · rw [h4] at h4'; cases h4'; rw [h5] at h5'; cases h5'; exact ⟨rfl, by omega⟩
/-- the reference's cells -/
def kdM (rm r : Nat) : Nat := if r ≤ 6 then 69 + r else if r = 7 then 1000 + 2 * rm else if r = 8 then 76 else if r = 9 then 1001 + 2 * rm else 67 + r
theorem CM_k (hs : Sf K len I R) (krm : K rm = 10) {r j a k : Nat} (h : CM rm R r j a k) : K a = kdM rm r := by
  obtain ⟨-, h1, h2, h3⟩ := h
  obtain ⟨kd, mo, m1, m2, m3, m4, m5, m6⟩ := hs.2.2.1 rm krm
  have hc : r = 1 ∨ r = 2 ∨ r = 3 ∨ r = 4 ∨ r = 5 ∨ r = 6 ∨ r = 7 ∨ r = 8 ∨ r = 9 ∨ r = 10 ∨ r = 11 ∨ r = 12 ∨ r = 13 ∨ r = 14 := by omega
  rcases hc with rfl | rfl | rfl | rfl | rfl | rfl | rfl | rfl | rfl | rfl | rfl | rfl | rfl | rfl
  · exact (refK hs (t := 70) (n := 5) krm (by decide) h3)
  · exact (refK hs (t := 71) (n := 5) krm (by decide) h3)
  · exact (refK hs (t := 72) (n := 16) krm (by decide) h3)
  · exact (refK hs (t := 73) (n := 16) krm (by decide) h3)
  · exact (refK hs (t := 74) (n := 60) krm (by decide) h3)
  · exact (refK hs (t := 75) (n := 6) krm (by decide) h3)
  · rw [m1] at h3; cases h3; exact m2
  · exact (refK hs (t := 76) (n := 6) krm (by decide) h3)
  · rw [m4] at h3; cases h3; exact m5
  · exact (refK hs (t := 77) (n := 4) krm (by decide) h3)
  · exact (refK hs (t := 78) (n := 4) krm (by decide) h3)
  · exact (refK hs (t := 79) (n := 4) krm (by decide) h3)
  · exact (refK hs (t := 80) (n := 4) krm (by decide) h3)
  · exact (refK hs (t := 81) (n := 4) krm (by decide) h3)
theorem CM_x (hs : Sf K len I R) (krm : K rm = 10) : CX (CM rm R) qM K := by
  refine ⟨fun r j a k h => ?_, fun r j a k r' j' h h' => ?_, fun r j a k a' k' h h' => ?_⟩
  · rw [CM_k hs krm h]
    obtain ⟨-, h1, h2, -⟩ := h
    simp only [qM, kdM, Bool.or_eq_true, Bool.and_eq_true, Nat.ble_eq]
    repeat' split
    all_goals omega
  · have g1 := CM_k hs krm h
    have g2 := CM_k hs krm h'
    obtain ⟨e1, h1, h2, -⟩ := h
    obtain ⟨e2, h3, h4, -⟩ := h'
    have hkk : kdM rm r = kdM rm r' := by rw [← g1, ← g2]
    refine ⟨?_, by omega⟩
    unfold kdM at hkk
    repeat' (split at hkk)
    all_goals omega
  · obtain ⟨e1, h1, h2, h3⟩ := h
    obtain ⟨e2, -, -, h4⟩ := h'
    rw [h3] at h4; cases h4; exact ⟨rfl, by omega⟩
theorem cCt {r f j a : Nat} (h : tC r = some (true, f)) (ha : R hl f = some a) : CC hl lk R r j a j := Or.inl ⟨true, f, h, ha, rfl⟩
theorem cCf {r f j a : Nat} (h : tC r = some (false, f)) (ha : R lk f = some a) : CC hl lk R r j a j := Or.inl ⟨false, f, h, ha, rfl⟩
theorem cCs {k j sa a : Nat} (hk : k < 4) (hj : j < 6) (h1 : R hl 7 = some sa) (h2 : R sa j = some a) : CC hl lk R (k + 6) j a k := Or.inr ⟨hk, rfl, hj, sa, h1, h2⟩
theorem cM {r j a : Nat} (h1 : 1 ≤ r) (h2 : r ≤ 14) (h3 : R rm (r + 10) = some a) : CM rm R r j a j := ⟨rfl, h1, h2, h3⟩
theorem upN_o {N : Nat → Int} {r s : Nat} {v : Int} (h : r ≠ s) : upN N s v r = N r := by unfold upN; rw [if_neg h]
theorem cnt_1 (D : DD) : cntN D 1 = D 0 5 := rfl
theorem cnt_2 (D : DD) : cntN D 2 = D 0 5 := rfl
theorem cnt_3 (D : DD) : cntN D 3 = D 0 4 := rfl
theorem cnt_4 (D : DD) : cntN D 4 = D 0 4 := rfl
theorem cnt_6 (D : DD) : cntN D 6 = D 0 7 := rfl
theorem cnt_7 (D : DD) : cntN D 7 = D 0 7 := rfl
theorem cnt_8 (D : DD) : cntN D 8 = D 0 7 := rfl
theorem cnt_9 (D : DD) : cntN D 9 = D 0 7 := rfl
theorem cnt_10 (D : DD) : cntN D 10 = D 0 8 := rfl
theorem cnt_11 (D : DD) : cntN D 11 = D 0 8 := rfl
theorem cnt_12 (D : DD) : cntN D 12 = D 0 8 := rfl
theorem cnt_13 (D : DD) : cntN D 13 = D 0 9 := rfl
theorem cnt_14 (D : DD) : cntN D 14 = D 0 9 := rfl
theorem r15 (r : Nat) : r = 0 ∨ r = 1 ∨ r = 2 ∨ r = 3 ∨ r = 4 ∨ r = 5 ∨ r = 6 ∨ r = 7 ∨ r = 8 ∨ r = 9 ∨ r = 10 ∨ r = 11 ∨ r = 12 ∨ r = 13 ∨ r = 14 ∨ 15 ≤ r := by omega
theorem cntN_15 {r : Nat} (h : 15 ≤ r) : cntN D r = 0 := by
  unfold cntN
  rw [if_neg (by omega), if_neg (by omega), if_neg (by omega), if_neg (by omega), if_neg (by omega), if_neg (by omega)]
theorem RW.cg15 (h : RW C N D I) (hd : ∀ r j : Nat, r < 15 → (j : Int) < cntN D' r → rel9 D' r j → (j : Int) < N r ∧ rel9 D r j ∧ D' r j = D r j) : RW C (cntN D') D' I := h.cg fun r j h1 h2 => by
  by_cases hr : r < 15
  · exact hd r j hr h1 h2
  · rw [cntN_15 (by omega)] at h1; omega
theorem RW.fresh (h : RW C (cntN D) D I) {v : Int} : RW C (cntN (adN D v)) (adN D v) I := h.cg15 fun r j hr h1 h2 => by
  have e : ∀ k, k ≠ 10 → adN D v 0 k = D 0 k := fun k hk => adN_n hk
  have e2 : ∀ r, r ≠ 20 → r ≠ 0 → ∀ j, adN D v r j = D r j := fun r h1 h2 j => by unfold adN; rw [upD_n _ _ (Or.inl h2), upD_n _ _ (Or.inl h1)]
  refine ⟨?_, fun h9 => ?_, ?_⟩
  · unfold cntN at h1 ⊢; rw [e 5 (by decide), e 4 (by decide), e 7 (by decide), e 8 (by decide), e 9 (by decide)] at h1; exact h1
  · have := h2 h9; rwa [e2 7 (by decide) (by decide)] at this
  · refine e2 r (by omega) (fun z => ?_) j
    subst z; have h3 : cntN (adN D v) 0 = 0 := rfl
    rw [h3] at h1; omega
theorem RW.peg {i : Nat} {x y w : Int} (h : RW C (upN (upN (cntN D) 1 ((i : Int) + 1)) 2 ((i : Int) + 1)) (upD (upD D 1 i x) 2 i y) I) (hi : (i : Int) = D 0 5) : RW C (cntN (aPeg D x y w)) (aPeg D x y w) I := h.cg15 fun r j hr h1 h2 => by
  have hi' : (D 0 5).toNat = i := by omega
  rcases r15 r with rfl | rfl | rfl | rfl | rfl | rfl | rfl | rfl | rfl | rfl | rfl | rfl | rfl | rfl | rfl | hr'
  all_goals (first | omega | (simp [cntN, aPeg, upD, upN, rel9, hi'] at h1 h2 ⊢ <;> first | omega | (refine ⟨?_, ?_⟩ <;> first | assumption | omega | (intros; assumption))))
theorem RW.frm {i : Nat} {x y : Int} (h : RW C (upN (upN (cntN D) 3 ((i : Int) + 1)) 4 ((i : Int) + 1)) (upD (upD D 3 i x) 4 i y) I) (hi : (i : Int) = D 0 4) : RW C (cntN (aFrom D x y)) (aFrom D x y) I := h.cg15 fun r j hr h1 h2 => by
  have hi' : (D 0 4).toNat = i := by omega
  rcases r15 r with rfl | rfl | rfl | rfl | rfl | rfl | rfl | rfl | rfl | rfl | rfl | rfl | rfl | rfl | rfl | hr'
  all_goals (first | omega | (simp [cntN, aFrom, upD, upN, rel9, hi'] at h1 h2 ⊢ <;> first | omega | (refine ⟨?_, ?_⟩ <;> first | assumption | omega | (intros; assumption))))
theorem RW.vil {i : Nat} {x y z : Int} (h : RW C (upN (upN (upN (cntN D) 10 ((i : Int) + 1)) 11 ((i : Int) + 1)) 12 ((i : Int) + 1)) (upD (upD (upD D 10 i x) 11 i y) 12 i z) I) (hi : (i : Int) = D 0 8) : RW C (cntN (aVil D x y z)) (aVil D x y z) I := h.cg15 fun r j hr h1 h2 => by
  have hi' : (D 0 8).toNat = i := by omega
  rcases r15 r with rfl | rfl | rfl | rfl | rfl | rfl | rfl | rfl | rfl | rfl | rfl | rfl | rfl | rfl | rfl | hr'
  all_goals (first | omega | (simp [cntN, aVil, upD, upN, rel9, hi'] at h1 h2 ⊢ <;> first | omega | (refine ⟨?_, ?_⟩ <;> first | assumption | omega | (intros; assumption))))
theorem RW.kno {i : Nat} {x y : Int} (h : RW C (upN (upN (cntN D) 13 ((i : Int) + 1)) 14 ((i : Int) + 1)) (upD (upD D 13 i x) 14 i y) I) (hi : (i : Int) = D 0 9) : RW C (cntN (aKno D x y)) (aKno D x y) I := h.cg15 fun r j hr h1 h2 => by
  have hi' : (D 0 9).toNat = i := by omega
  rcases r15 r with rfl | rfl | rfl | rfl | rfl | rfl | rfl | rfl | rfl | rfl | rfl | rfl | rfl | rfl | rfl | hr'
  all_goals (first | omega | (simp [cntN, aKno, upD, upN, rel9, hi'] at h1 h2 ⊢ <;> first | omega | (refine ⟨?_, ?_⟩ <;> first | assumption | omega | (intros; assumption))))
theorem RW.sto {i : Nat} {w k x m m' : Int} (h : RW C (upN (upN (upN (upN (cntN D) 6 ((i : Int) + 1)) 7 ((i : Int) + 1)) 8 ((i : Int) + 1)) 9 ((i : Int) + 1)) (upD (upD (upD (upD D 6 i w) 7 i k) 8 i x) 9 i m') I) (hi : (i : Int) = D 0 7) (hm : (k = 2 ∨ k = 3 ∨ k = 4) → m = m') : RW C (cntN (aStory D w k x m)) (aStory D w k x m) I := h.cg15 fun r j hr h1 h2 => by
  have hi' : (D 0 7).toNat = i := by omega
  rcases r15 r with rfl | rfl | rfl | rfl | rfl | rfl | rfl | rfl | rfl | rfl | rfl | rfl | rfl | rfl | rfl | hr'
  case inr.inr.inr.inr.inr.inr.inr.inr.inr.inl =>
    have h3 := h2 rfl
    by_cases hj : j = i
    · subst hj
      simp [aStory, upD, hi'] at h3
      refine ⟨by simp [upN]; omega, fun _ => by simpa [upD] using h3, ?_⟩
      simp [aStory, upD, hi']; exact hm h3
    · simp [aStory, upD, hi', hj] at h3
      have h4 : (j : Int) < D 0 7 + 1 := by simpa [cntN, aStory, upD] using h1
      refine ⟨by simp [upN]; omega, fun _ => by simpa [upD, hj] using h3, ?_⟩
      simp [aStory, upD, hi', hj]
  all_goals (first | omega | (simp [cntN, aStory, upD, upN, rel9, hi'] at h1 h2 ⊢ <;> first | omega | (refine ⟨?_, ?_⟩ <;> first | assumption | omega | (intros; assumption))))
theorem RW.rai {x y : Int} (h : RW C (cntN D) (upD D 5 x.toNat (D 5 x.toNat + y)) I) : RW C (cntN (aRain D x y)) (aRain D x y) I := h.cg15 fun r j hr h1 h2 => by
  rcases r15 r with rfl | rfl | rfl | rfl | rfl | rfl | rfl | rfl | rfl | rfl | rfl | rfl | rfl | rfl | rfl | hr'
  all_goals (first | omega | (simp [cntN, aRain, upD, rel9] at h1 h2 ⊢ <;> first | omega | (refine ⟨?_, ?_⟩ <;> first | assumption | omega | (intros; assumption))))
theorem RW.lak {x y z : Int} (h : RW C (cntN D) D I) : RW C (cntN (aLake D x y z)) (aLake D x y z) I := h.cg15 fun r j hr h1 h2 => by
  rcases r15 r with rfl | rfl | rfl | rfl | rfl | rfl | rfl | rfl | rfl | rfl | rfl | rfl | rfl | rfl | rfl | hr'
  all_goals (first | omega | (simp [cntN, aLake, upD, rel9] at h1 h2 ⊢ <;> first | omega | (refine ⟨?_, ?_⟩ <;> first | assumption | omega | (intros; assumption))))
theorem pgx_eq {v : Int} {r : Nat} (hr : r < 5) (h : D 23 r = v) (hn : ∀ j : Nat, j < r → D 23 j ≠ v) : pgx D v = r := by
  unfold pgx
  have hc : r = 0 ∨ r = 1 ∨ r = 2 ∨ r = 3 ∨ r = 4 := by omega
  rcases hc with rfl | rfl | rfl | rfl | rfl
  · rw [pif_t h]; rfl
  · rw [pif_f (hn 0 (by decide)), pif_t h]; rfl
  · rw [pif_f (hn 0 (by decide)), pif_f (hn 1 (by decide)), pif_t h]; rfl
  · rw [pif_f (hn 0 (by decide)), pif_f (hn 1 (by decide)), pif_f (hn 2 (by decide)), pif_t h]; rfl
  · rw [pif_f (hn 0 (by decide)), pif_f (hn 1 (by decide)), pif_f (hn 2 (by decide)), pif_f (hn 3 (by decide))]; rfl
end CELLS
