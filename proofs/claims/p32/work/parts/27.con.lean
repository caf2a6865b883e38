def pkU (q : Nat) : Bool := (Nat.ble 21 q && Nat.ble q 31) || q == 34 || q == 35
def pk (q : Nat) : Bool := pkU q || q == 40 || q == 41 || q == 42 || q == 43 || Nat.ble 46 q
theorem pkU_of {q : Nat} (h : pkU q = true) : (21 ≤ q ∧ q ≤ 31) ∨ q = 34 ∨ q = 35 := by
  simp only [pkU, Bool.or_eq_true, Bool.and_eq_true, Nat.ble_eq, beq_iff_eq] at h; omega
theorem pk_of {q : Nat} (h : pk q = true) : (21 ≤ q ∧ q ≤ 31) ∨ q = 34 ∨ q = 35 ∨ q = 40 ∨ q = 41 ∨ q = 42 ∨ q = 43 ∨ 46 ≤ q := by
  simp only [pk, Bool.or_eq_true, Nat.ble_eq, beq_iff_eq] at h
  rcases h with ((((h | h) | h) | h) | h) | h
  · have := pkU_of h; omega
  all_goals omega
theorem refT_out {q : Nat} (h : 12 ≤ q) : refT q = [] := by unfold refT; split <;> first | rfl | omega
theorem refT_ne : ∀ q, ∀ e ∈ refT q, e.2.1 ≠ 0 := by
  intro q e he
  by_cases h : 12 ≤ q
  · rw [refT_out h] at he; cases he
  · have : ∀ q, q < 12 → ∀ e ∈ refT q, e.2.1 ≠ 0 := by decide
    exact this q (by omega) e he
theorem rng_out {q : Nat} (h : 12 ≤ q) (k : Nat) : rngI q k = none := by unfold rngI; split <;> first | rfl | omega
theorem arr_z {q : Nat} (lo hi : Int) (h : arrT q = some (lo, hi)) : lo ≤ (0 : Int32).toInt ∧ (0 : Int32).toInt ≤ hi := by
  revert h; unfold arrT; split <;> intro h <;> first | (cases h; exact ⟨by decide, by decide⟩) | cases h
section CON
variable {K len K' len' : Nat → Nat} {I I' : Nat → Nat → Int32} {R R' : Nat → Nat → Option Nat} {q kd n a k v : Nat}
theorem Sf.grow (h : Sf K len I R) (hq : K q = 0) (hp : pk kd = true) : Sf (va_up K q kd) (va_up len q n) (z2 I q 0) (z2 R q none) := by
  have hp := pk_of hp
  have eK : ∀ b, b ≠ q → va_up K q kd b = K b := fun b hb => va_up_ne _ _ hb
  have nq : ∀ b x, va_up K q kd b = x → x ≠ kd → b ≠ q := fun b x h1 h2 h3 => h2 (by rw [← h1, h3, va_up_self])
  have nz : ∀ b x, K b = x → x ≠ 0 → b ≠ q := fun b x h1 h2 h3 => h2 (by rw [← h1, h3, hq])
  refine ⟨fun b e he => ?_, ⟨fun b hb j hj => ?_, fun b hb j hj => ?_, fun b hb => ?_, fun b hb => ?_⟩, fun b hb => ?_, fun b j lo hi hr => ?_, fun b lo hi hr j hj => ?_, ⟨fun b hb => ?_, fun b hb => ?_, fun b hb => ?_, fun b kd2 mo hb g1 g2 j => ?_⟩⟩
  · by_cases hb : b = q
    · subst hb; rw [va_up_self, refT_out (by omega)] at he; cases he
    · rw [eK b hb] at he
      obtain ⟨c, h1, h2, h3⟩ := h.1 b e he
      have hc := nz c _ h2 (refT_ne _ e he)
      exact ⟨c, by rw [z2_ne _ _ _ hb]; exact h1, by rw [eK c hc]; exact h2, fun z => by rw [va_up_ne _ _ hc]; exact h3 z⟩
  · have hn := nq b 44 hb (by omega)
    obtain ⟨c, h1, h2⟩ := h.2.1.1 b (by rw [← eK b hn]; exact hb) j hj
    exact ⟨c, by rw [z2_ne _ _ _ hn]; exact h1, by rw [eK c (nz c 1 h2 (by decide))]; exact h2⟩
  · have hn := nq b 45 hb (by omega)
    obtain ⟨c, h1, h2⟩ := h.2.1.2.1 b (by rw [← eK b hn]; exact hb) j hj
    exact ⟨c, by rw [z2_ne _ _ _ hn]; exact h1, by rw [eK c (nz c 5 h2 (by decide))]; exact h2⟩
  · have hn := nq b 11 hb (by omega)
    rcases h.2.1.2.2.1 b (by rw [← eK b hn]; exact hb) with h1 | ⟨c, h1, h2⟩
    · exact Or.inl (by rw [z2_ne _ _ _ hn]; exact h1)
    · exact Or.inr ⟨c, by rw [z2_ne _ _ _ hn]; exact h1, by rw [eK c (nz c 10 h2 (by decide))]; exact h2⟩
  · have hn := nq b 11 hb (by omega)
    rcases h.2.1.2.2.2 b (by rw [← eK b hn]; exact hb) with h1 | ⟨c, h1, h2⟩
    · exact Or.inl (by rw [z2_ne _ _ _ hn]; exact h1)
    · exact Or.inr ⟨c, by rw [z2_ne _ _ _ hn]; exact h1, by rw [eK c (nz c 10 h2 (by decide))]; exact h2⟩
  · have hn := nq b 10 hb (by omega)
    obtain ⟨x, y, h1, h2, h3, h4, h5, h6⟩ := h.2.2.1 b (by rw [← eK b hn]; exact hb)
    have hx := nz x _ h2 (by omega)
    have hy := nz y _ h5 (by omega)
    exact ⟨x, y, by rw [z2_ne _ _ _ hn]; exact h1, by rw [eK x hx]; exact h2, by rw [va_up_ne _ _ hx]; exact h3, by rw [z2_ne _ _ _ hn]; exact h4, by rw [eK y hy]; exact h5, by rw [va_up_ne _ _ hy]; exact h6⟩
  · by_cases hb : b = q
    · subst hb; rw [va_up_self, rng_out (by omega)] at hr; cases hr
    · rw [eK b hb] at hr; rw [z2_ne _ _ _ hb]; exact h.2.2.2.1 b j lo hi hr
  · by_cases hb : b = q
    · subst hb; rw [z2_self]; exact arr_z lo hi hr
    · rw [eK b hb] at hr; rw [z2_ne _ _ _ hb]; rw [va_up_ne _ _ hb] at hj; exact h.2.2.2.2.1 b lo hi hr j hj
  · have hn := nq b 3 hb (by omega)
    rw [z2_ne _ _ _ hn, z2_ne _ _ _ hn]; exact h.2.2.2.2.2.1 b (by rw [← eK b hn]; exact hb)
  · have hn := nq b 10 hb (by omega)
    rw [z2_ne _ _ _ hn, z2_ne _ _ _ hn]; exact h.2.2.2.2.2.2.1 b (by rw [← eK b hn]; exact hb)
  · have hn := nq b 11 hb (by omega)
    rw [z2_ne _ _ _ hn]; exact h.2.2.2.2.2.2.2.1 b (by rw [← eK b hn]; exact hb)
  · have hn := nq b 10 hb (by omega)
    have hb' : K b = 10 := by rw [← eK b hn]; exact hb
    rw [z2_ne _ _ _ hn] at g1 g2
    have h2 := h.2.2.1.kd hb' g1
    have h5 := h.2.2.1.mo hb' g2
    rw [z2_ne _ _ _ hn, z2_ne _ _ _ (nz kd2 _ h2 (by omega)), z2_ne _ _ _ (nz mo _ h5 (by omega))]
    exact h.2.2.2.2.2.2.2.2 b kd2 mo hb' g1 g2 j
/-- stores into what is being made -/
theorem Sf.setR (h : Sf K len I R) (hu : pkU (K a) = true) (e : R' = up2 R a k (some v)) : Sf K len I R' := by
  have hu := pkU_of hu
  have ne : ∀ b j, ¬ (21 ≤ K b ∧ K b ≤ 31 ∨ K b = 34 ∨ K b = 35) → R' b j = R b j := fun b j hb => by rw [e, up2_ne _ _ (Or.inl fun z => hb (by rw [z]; exact hu))]
  refine ⟨fun b en he => ?_, ⟨fun b hb j hj => ?_, fun b hb j hj => ?_, fun b hb => ?_, fun b hb => ?_⟩, fun b hb => ?_, h.2.2.2.1, h.2.2.2.2.1, h.2.2.2.2.2.1, h.2.2.2.2.2.2.1, h.2.2.2.2.2.2.2.1, fun b x y hb g1 g2 => ?_⟩
  · by_cases hb : 12 ≤ K b
    · rw [refT_out hb] at he; cases he
    · rw [ne b _ (by omega)]; exact h.1 b en he
  · rw [ne b _ (by omega)]; exact h.2.1.1 b hb j hj
  · rw [ne b _ (by omega)]; exact h.2.1.2.1 b hb j hj
  · rw [ne b _ (by omega)]; exact h.2.1.2.2.1 b hb
  · rw [ne b _ (by omega)]; exact h.2.1.2.2.2 b hb
  · rw [ne b _ (by omega), ne b _ (by omega)]; exact h.2.2.1 b hb
  · rw [ne b _ (by omega)] at g1 g2; exact h.2.2.2.2.2.2.2.2 b x y hb g1 g2
theorem Sf.setI (h : Sf K len I R) {w : Int32} (hu : pkU (K a) = true) (e : I' = up2 I a k w) : Sf K len I' R := by
  have hu := pkU_of hu
  have ne : ∀ b j, ¬ (21 ≤ K b ∧ K b ≤ 31 ∨ K b = 34 ∨ K b = 35) → I' b j = I b j := fun b j hb => by rw [e, up2_ne _ _ (Or.inl fun z => hb (by rw [z]; exact hu))]
  refine ⟨h.1, h.2.1, h.2.2.1, fun b j lo hi hr => ?_, fun b lo hi hr j hj => ?_, fun b hb => ?_, fun b hb => ?_, fun b hb => ?_, fun b x y hb g1 g2 j => ?_⟩
  · by_cases hb : 12 ≤ K b
    · rw [rng_out hb] at hr; cases hr
    · rw [ne b _ (by omega)]; exact h.2.2.2.1 b j lo hi hr
  · rw [ne b _ (fun z => ?_)]
    · exact h.2.2.2.2.1 b lo hi hr j hj
    · have : arrT (K b) = none := by unfold arrT; split <;> first | rfl | omega
      rw [this] at hr; cases hr
  · rw [ne b _ (by omega), ne b _ (by omega)]; exact h.2.2.2.2.2.1 b hb
  · rw [ne b _ (by omega), ne b _ (by omega)]; exact h.2.2.2.2.2.2.1 b hb
  · rw [ne b _ (by omega)]; exact h.2.2.2.2.2.2.2.1 b hb
  · have z1 := h.2.2.1.kd hb g1; have z2 := h.2.2.1.mo hb g2
    rw [ne b _ (by omega), ne x _ (by omega), ne y _ (by omega)]; exact h.2.2.2.2.2.2.2.2 b x y hb g1 g2 j
/-- an object that is whole gets its kind -/
theorem Sf.seal (h : Sf K len I R) {ci : Nat} (hk : K a = 21 + ci) (hci : ci ≤ 10) (hr : ∀ e ∈ refT (1 + ci), ∃ b, R a e.1 = some b ∧ K b = e.2.1 ∧ b ≠ a ∧ (e.2.2 ≠ 0 → len b = e.2.2)) (hi : ∀ k lo hi, rngI (1 + ci) k = some (lo, hi) → lo ≤ (I a k).toInt ∧ (I a k).toInt ≤ hi)
    (h3 : ci = 2 ∨ ci = 9 → (I a 5).toInt ≤ (I a 4).toInt) (h11 : ci = 10 → (I a 19).toInt ≠ -1 ∧ R a 3 = none ∧ R a 4 = none) (h10 : ci = 9 → (I a 7).toInt ≤ 0 ∧ ∃ kd mo, R a 17 = some kd ∧ K kd = 1000 + 2 * a ∧ len kd = 6 ∧ R a 19 = some mo ∧ K mo = 1001 + 2 * a ∧ len mo = 6 ∧ kd ≠ a ∧ mo ≠ a) : Sf (va_up K a (1 + ci)) len I R := by
  have eK : ∀ b, b ≠ a → va_up K a (1 + ci) b = K b := fun b hb => va_up_ne _ _ hb
  have nz : ∀ b x, K b = x → x ≠ 21 + ci → b ≠ a := fun b x h1 h2 h3 => h2 (by rw [← h1, h3, hk])
  have t21 : ∀ q, ∀ e ∈ refT q, ¬ (21 ≤ e.2.1 ∧ e.2.1 ≤ 31) := by
    intro q e he
    by_cases h : 12 ≤ q
    · rw [refT_out h] at he; cases he
    · have : ∀ q, q < 12 → ∀ e ∈ refT q, ¬ (21 ≤ e.2.1 ∧ e.2.1 ≤ 31) := by decide
      exact this q (by omega) e he
  refine ⟨fun b e he => ?_, ⟨fun b hb j hj => ?_, fun b hb j hj => ?_, fun b hb => ?_, fun b hb => ?_⟩, fun b hb => ?_, fun b j lo hi' hr' => ?_, fun b lo hi' hr' j hj => ?_, ⟨fun b hb => ?_, fun b hb => ?_, fun b hb => ?_, fun b x y hb g1 g2 j => ?_⟩⟩
  · by_cases hb : b = a
    · subst hb; rw [va_up_self] at he
      obtain ⟨c, h1, h2, h4, h5⟩ := hr e he
      exact ⟨c, h1, by rw [eK c h4]; exact h2, h5⟩
    · rw [eK b hb] at he
      obtain ⟨c, h1, h2, h4⟩ := h.1 b e he
      exact ⟨c, h1, by rw [eK c (nz c _ h2 (fun z => t21 _ e he (by omega)))]; exact h2, h4⟩
  · by_cases hb' : b = a
    · subst hb'; rw [va_up_self] at hb; omega
    · rw [eK b hb'] at hb
      obtain ⟨c, h1, h2⟩ := h.2.1.1 b hb j hj
      exact ⟨c, h1, by rw [eK c (nz c _ h2 (by omega))]; exact h2⟩
  · by_cases hb' : b = a
    · subst hb'; rw [va_up_self] at hb; omega
    · rw [eK b hb'] at hb
      obtain ⟨c, h1, h2⟩ := h.2.1.2.1 b hb j hj
      exact ⟨c, h1, by rw [eK c (nz c _ h2 (by omega))]; exact h2⟩
  · by_cases hb' : b = a
    · subst hb'; rw [va_up_self] at hb; exact Or.inl (h11 (by omega)).2.1
    · rw [eK b hb'] at hb
      rcases h.2.1.2.2.1 b hb with h1 | ⟨c, h1, h2⟩
      · exact Or.inl h1
      · exact Or.inr ⟨c, h1, by rw [eK c (nz c _ h2 (by omega))]; exact h2⟩
  · by_cases hb' : b = a
    · subst hb'; rw [va_up_self] at hb; exact Or.inl (h11 (by omega)).2.2
    · rw [eK b hb'] at hb
      rcases h.2.1.2.2.2 b hb with h1 | ⟨c, h1, h2⟩
      · exact Or.inl h1
      · exact Or.inr ⟨c, h1, by rw [eK c (nz c _ h2 (by omega))]; exact h2⟩
  · by_cases hb' : b = a
    · subst hb'; rw [va_up_self] at hb
      obtain ⟨-, x, y, g1, g2, g3, g4, g5, g6, g7, g8⟩ := h10 (by omega)
      exact ⟨x, y, g1, by rw [eK x g7]; exact g2, g3, g4, by rw [eK y g8]; exact g5, g6⟩
    · rw [eK b hb'] at hb
      obtain ⟨x, y, g1, g2, g3, g4, g5, g6⟩ := h.2.2.1 b hb
      exact ⟨x, y, g1, by rw [eK x (nz x _ g2 (by omega))]; exact g2, g3, g4, by rw [eK y (nz y _ g5 (by omega))]; exact g5, g6⟩
  · by_cases hb' : b = a
    · subst hb'; rw [va_up_self] at hr'; exact hi j lo hi' hr'
    · rw [eK b hb'] at hr'; exact h.2.2.2.1 b j lo hi' hr'
  · by_cases hb' : b = a
    · subst hb'; rw [va_up_self] at hr'
      have : arrT (1 + ci) = none := by unfold arrT; split <;> first | rfl | omega
      rw [this] at hr'; cases hr'
    · rw [eK b hb'] at hr'; exact h.2.2.2.2.1 b lo hi' hr' j hj
  · by_cases hb' : b = a
    · subst hb'; rw [va_up_self] at hb; exact h3 (by omega)
    · rw [eK b hb'] at hb; exact h.2.2.2.2.2.1 b hb
  · by_cases hb' : b = a
    · subst hb'; rw [va_up_self] at hb; exact h3 (by omega)
    · rw [eK b hb'] at hb; exact h.2.2.2.2.2.2.1 b hb
  · by_cases hb' : b = a
    · subst hb'; rw [va_up_self] at hb; exact (h11 (by omega)).1
    · rw [eK b hb'] at hb; exact h.2.2.2.2.2.2.2.1 b hb
  · by_cases hb' : b = a
    · subst hb'; rw [va_up_self] at hb
      intro hj
      have := (h10 (by omega)).1
      omega
    · rw [eK b hb'] at hb; exact h.2.2.2.2.2.2.2.2 b x y hb g1 g2 j
/-- a row of objects that is full gets its kind -/
theorem Sf.sealA (h : Sf K len I R) {t : Nat} (ht : t = 4 ∨ t = 5) (hk : K a = 30 + t) (hr : ∀ j, j < 6 → ∃ b, R a j = some b ∧ K b = (if t = 4 then 1 else 5)) : Sf (va_up K a (40 + t)) len I R := by
  have eK : ∀ b, b ≠ a → va_up K a (40 + t) b = K b := fun b hb => va_up_ne _ _ hb
  have nz : ∀ b x, K b = x → x ≠ 30 + t → b ≠ a := fun b x h1 h2 h3 => h2 (by rw [← h1, h3, hk])
  have t34 : ∀ q, ∀ e ∈ refT q, e.2.1 ≠ 34 ∧ e.2.1 ≠ 35 := by
    intro q e he
    by_cases h : 12 ≤ q
    · rw [refT_out h] at he; cases he
    · have : ∀ q, q < 12 → ∀ e ∈ refT q, e.2.1 ≠ 34 ∧ e.2.1 ≠ 35 := by decide
      exact this q (by omega) e he
  refine ⟨fun b e he => ?_, ⟨fun b hb j hj => ?_, fun b hb j hj => ?_, fun b hb => ?_, fun b hb => ?_⟩, fun b hb => ?_, fun b j lo hi' hr' => ?_, fun b lo hi' hr' j hj => ?_, ⟨fun b hb => ?_, fun b hb => ?_, fun b hb => ?_, fun b x y hb g1 g2 j => ?_⟩⟩
  · by_cases hb : b = a
    · subst hb; rw [va_up_self, refT_out (by omega)] at he; cases he
    · rw [eK b hb] at he
      obtain ⟨c, h1, h2, h4⟩ := h.1 b e he
      exact ⟨c, h1, by rw [eK c (nz c _ h2 (fun z => by have := t34 _ e he; omega))]; exact h2, h4⟩
  · by_cases hb' : b = a
    · subst hb'; rw [va_up_self] at hb
      obtain ⟨c, h1, h2⟩ := hr j hj
      rw [if_pos (by omega)] at h2
      exact ⟨c, h1, by rw [eK c (nz c _ h2 (by omega))]; exact h2⟩
    · rw [eK b hb'] at hb
      obtain ⟨c, h1, h2⟩ := h.2.1.1 b hb j hj
      exact ⟨c, h1, by rw [eK c (nz c _ h2 (by omega))]; exact h2⟩
  · by_cases hb' : b = a
    · subst hb'; rw [va_up_self] at hb
      obtain ⟨c, h1, h2⟩ := hr j hj
      rw [if_neg (by omega)] at h2
      exact ⟨c, h1, by rw [eK c (nz c _ h2 (by omega))]; exact h2⟩
    · rw [eK b hb'] at hb
      obtain ⟨c, h1, h2⟩ := h.2.1.2.1 b hb j hj
      exact ⟨c, h1, by rw [eK c (nz c _ h2 (by omega))]; exact h2⟩
  all_goals first
    | (have hb' : b ≠ a := fun z => by (subst z; rw [va_up_self] at hb; omega)
       rw [eK b hb'] at hb
       first
         | (rcases h.2.1.2.2.1 b hb with h1 | ⟨c, h1, h2⟩
            · exact Or.inl h1
            · exact Or.inr ⟨c, h1, by rw [eK c (nz c _ h2 (by omega))]; exact h2⟩)
         | (rcases h.2.1.2.2.2 b hb with h1 | ⟨c, h1, h2⟩
            · exact Or.inl h1
            · exact Or.inr ⟨c, h1, by rw [eK c (nz c _ h2 (by omega))]; exact h2⟩)
         | (obtain ⟨x, y, g1, g2, g3, g4, g5, g6⟩ := h.2.2.1 b hb
            exact ⟨x, y, g1, by rw [eK x (nz x _ g2 (by omega))]; exact g2, g3, g4, by rw [eK y (nz y _ g5 (by omega))]; exact g5, g6⟩)
         | exact h.2.2.2.2.2.1 b hb
         | exact h.2.2.2.2.2.2.1 b hb
         | exact h.2.2.2.2.2.2.2.1 b hb
         | exact h.2.2.2.2.2.2.2.2 b x y hb g1 g2 j)
    | (by_cases hb' : b = a
       · subst hb'
         rw [va_up_self] at hr'
         rw [rng_out (by omega)] at hr'
         cases hr'
       · rw [eK b hb'] at hr'
         exact h.2.2.2.1 b j lo hi' hr')
    | (by_cases hb' : b = a
       · subst hb'
         rw [va_up_self] at hr'
         have hn9 : arrT (40 + t) = none := by rcases ht with rfl | rfl <;> rfl
         rw [hn9] at hr'
         cases hr'
       · rw [eK b hb'] at hr'
         exact h.2.2.2.2.1 b lo hi' hr' j hj)
end CON
