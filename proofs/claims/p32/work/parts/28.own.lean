def UU (K : Nat → Nat) (R : Nat → Nat → Option Nat) : Prop := (∀ a i x, R a i = some x → K x ≠ 0) ∧ (∀ a i b j x, R a i = some x → R b j = some x → K x ≠ 2 → K x ≠ 6 → K x ≠ 10 → a = b ∧ i = j)
/-- nobody refers to y -/
def UN (R : Nat → Nat → Option Nat) (y : Nat) : Prop := ∀ b j, R b j ≠ some y
section OWN
variable {K K' : Nat → Nat} {R R' : Nat → Nat → Option Nat} {q kd a k b y : Nat}
theorem UU.new (h : UU K R) (hq : K q = 0) (hkd : kd ≠ 0) : UU (va_up K q kd) (z2 R q none) := by
  have e : ∀ b j x, z2 R q none b j = some x → R b j = some x ∧ x ≠ q := by
    intro b j x hx
    by_cases hb : b = q
    · subst hb; rw [z2_self] at hx; cases hx
    · rw [z2_ne _ _ _ hb] at hx
      exact ⟨hx, fun z => h.1 b j x hx (by rw [z]; exact hq)⟩
  refine ⟨fun b j x hx => ?_, fun a i b j x h1 h2 => ?_⟩
  · obtain ⟨g1, g2⟩ := e b j x hx
    rw [va_up_ne _ _ g2]; exact h.1 b j x g1
  · obtain ⟨g1, g2⟩ := e a i x h1
    obtain ⟨g3, -⟩ := e b j x h2
    rw [va_up_ne _ _ g2]; exact h.2 a i b j x g1 g3
theorem UN.fresh (h : UU K R) (hq : K q = 0) : UN (z2 R q none) q := by
  intro b j hx
  by_cases hb : b = q
  · subst hb; rw [z2_self] at hx; cases hx
  · rw [z2_ne _ _ _ hb] at hx; exact h.1 b j q hx hq
theorem UN.new (h : UN R y) : UN (z2 R q none) y := by
  intro b j hx
  by_cases hb : b = q
  · subst hb; rw [z2_self] at hx; cases hx
  · rw [z2_ne _ _ _ hb] at hx; exact h b j hx
theorem UU.put (h : UU K R) (hu : UN R b ∨ K b = 2 ∨ K b = 6 ∨ K b = 10) (hb : K b ≠ 0) (e : R' = up2 R a k (some b)) : UU K R' := by
  have cs : ∀ c j x, R' c j = some x → (c = a ∧ j = k ∧ x = b) ∨ R c j = some x := by
    intro c j x hx
    by_cases hc : c = a ∧ j = k
    · rw [e, hc.1, hc.2, up2_self] at hx; cases hx; exact Or.inl ⟨hc.1, hc.2, rfl⟩
    · rw [e, up2_ne _ _ ?_] at hx
      · exact Or.inr hx
      · by_cases h1 : c = a
        · exact Or.inr fun h2 => hc ⟨h1, h2⟩
        · exact Or.inl h1
  refine ⟨fun c j x hx => ?_, fun c i d j x h1 h2 n2 n6 n10 => ?_⟩
  · rcases cs c j x hx with ⟨-, -, rfl⟩ | hx
    · exact hb
    · exact h.1 c j x hx
  · rcases cs c i x h1 with ⟨c1, c2, c3⟩ | g1
    · rcases cs d j x h2 with ⟨d1, d2, -⟩ | g2
      · exact ⟨c1.trans d1.symm, c2.trans d2.symm⟩
      · subst c3
        rcases hu with hu | hu | hu | hu
        · exact absurd g2 (hu d j)
        all_goals exact absurd hu (by assumption)
    · rcases cs d j x h2 with ⟨d1, d2, d3⟩ | g2
      · subst d3
        rcases hu with hu | hu | hu | hu
        · exact absurd g1 (hu c i)
        all_goals exact absurd hu (by assumption)
      · exact h.2 c i d j x g1 g2 n2 n6 n10
theorem UN.put (h : UN R y) (hy : b ≠ y) (e : R' = up2 R a k (some b)) : UN R' y := by
  intro c j hx
  by_cases hc : c = a ∧ j = k
  · rw [e, hc.1, hc.2, up2_self] at hx; cases hx; exact hy rfl
  · rw [e, up2_ne _ _ ?_] at hx
    · exact h c j hx
    · by_cases h1 : c = a
      · exact Or.inr fun h2 => hc ⟨h1, h2⟩
      · exact Or.inl h1
theorem UU.seal {v : Nat} (h : UU K R) (h0 : K a ≠ 2 ∧ K a ≠ 6 ∧ K a ≠ 10) (hv : v ≠ 0) : UU (va_up K a v) R := by
  refine ⟨fun b j x hx => ?_, fun c i d j x h1 h2 n2 n6 n10 => ?_⟩
  · by_cases hxa : x = a
    · subst hxa; rw [va_up_self]; exact hv
    · rw [va_up_ne _ _ hxa]; exact h.1 b j x hx
  · by_cases hxa : x = a
    · subst hxa; exact h.2 c i d j x h1 h2 h0.1 h0.2.1 h0.2.2
    · rw [va_up_ne _ _ hxa] at n2 n6 n10; exact h.2 c i d j x h1 h2 n2 n6 n10
/-- a row of an object, a row of another: two rows -/
theorem UU.ne (h : UU K R) {i j x z : Nat} (h1 : R a i = some x) (h2 : R b j = some z) (hk : K x ≠ 2 ∧ K x ≠ 6 ∧ K x ≠ 10) (hn : a ≠ b ∨ i ≠ j) : x ≠ z := by
  intro e; subst e
  obtain ⟨g1, g2⟩ := h.2 a i b j x h1 h2 hk.1 hk.2.1 hk.2.2
  rcases hn with hn | hn
  · exact hn g1
  · exact hn g2
end OWN
def Own (K : Nat → Nat) (R : Nat → Nat → Option Nat) (a : Nat) (M : MM) : Prop := UU M.1 M.2.2.2.2 ∧ UN M.2.2.2.2 a ∧ ∀ y, K y ≠ 0 → K y ≠ 6 → UN R y → UN M.2.2.2.2 y
theorem kupy {K K0 : Nat → Nat} {q v y : Nat} (hq : K q = 0) (hm : K y = K0 y) (hy : K0 y ≠ 0) : va_up K q v y = K0 y := by
  rw [va_up_ne _ _ (fun z => hy (by rw [← hm, z, hq]))]; exact hm
theorem made_oldK {K len K' len' : Nat → Nat} {I I' : Nat → Nat → Int32} {J' : Nat → Nat → Int64} {R R' : Nat → Nat → Option Nat} {q cj : Nat} {Z : Nat → Int32} (hq : K q = 0) (h : Made (va_up K q (21 + cj)) len (z2 I q 0) (z2 R q none) q cj Z (K', len', I', J', R')) : ∀ b, K b ≠ 0 → K' b = K b := by
  intro b hb
  have hbq : b ≠ q := fun z => hb (by rw [z]; exact hq)
  have h1 := (h.2.2.2 b (by rw [va_up_ne _ _ hbq]; exact hb) hbq).1
  rw [va_up_ne _ _ hbq] at h1
  exact h1

