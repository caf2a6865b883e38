theorem made_old {K len K' len' : Nat → Nat} {I I' : Nat → Nat → Int32} {J' : Nat → Nat → Int64} {R R' : Nat → Nat → Option Nat} {q cj : Nat} {Z : Nat → Int32} (hq : K q = 0) (h : Made (va_up K q (21 + cj)) len (z2 I q 0) (z2 R q none) q cj Z (K', len', I', J', R')) : ∀ b, K b ≠ 0 → K' b = K b ∧ len' b = len b ∧ I' b = I b ∧ R' b = R b := by
  intro b hb
  have hbq : b ≠ q := fun z => hb (by rw [z]; exact hq)
  obtain ⟨h1, h2, h3, h4⟩ := h.2.2.2 b (by rw [va_up_ne _ _ hbq]; exact hb) hbq
  refine ⟨by rw [← va_up_ne K (21 + cj) hbq]; exact h1, h2, ?_, ?_⟩
  · funext j; exact (congrFun h3 j).trans (z2_ne _ _ _ hbq)
  · funext j; exact (congrFun h4 j).trans (z2_ne _ _ _ hbq)
abbrev rmX10_hill : Room := { frames := 11, cells := 18, slots := 231, locals := 236 }

