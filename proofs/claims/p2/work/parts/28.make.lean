/-- an object of class ci at a is being made: F its rows and parts so far; what was there before is as it was -/
def Con (K0 len0 : Nat → Nat) (I0 : Nat → Nat → Int32) (R0 : Nat → Nat → Option Nat) (a ci : Nat) (Z : Nat → Int32) (F : List (Nat × Nat × Nat)) (K len : Nat → Nat) (I : Nat → Nat → Int32) (R : Nat → Nat → Option Nat) : Prop :=
  Sf K len I R ∧ K a = 21 + ci ∧ I a = Z ∧ (∀ e ∈ F, ∃ b, R a e.1 = some b ∧ K b = e.2.1 ∧ (b ≠ a ∧ e.2.1 ≠ 0) ∧ (e.2.2 ≠ 0 → len b = e.2.2)) ∧ (∀ k, (∀ e ∈ F, e.1 ≠ k) → R a k = none) ∧ ∀ b, K0 b ≠ 0 → b ≠ a → K b = K0 b ∧ len b = len0 b ∧ I b = I0 b ∧ R b = R0 b
/-- .. and has been made -/
def Made (K0 len0 : Nat → Nat) (I0 : Nat → Nat → Int32) (R0 : Nat → Nat → Option Nat) (a ci : Nat) (Z : Nat → Int32) (M : MM) : Prop :=
  Sf M.1 M.2.1 M.2.2.1 M.2.2.2.2 ∧ M.1 a = 1 + ci ∧ M.2.2.1 a = Z ∧ ∀ b, K0 b ≠ 0 → b ≠ a → M.1 b = K0 b ∧ M.2.1 b = len0 b ∧ M.2.2.1 b = I0 b ∧ M.2.2.2.2 b = R0 b
section MAKE
variable {K0 len0 : Nat → Nat} {I0 : Nat → Nat → Int32} {R0 : Nat → Nat → Option Nat} {a ci : Nat} {Z : Nat → Int32} {F : List (Nat × Nat × Nat)} {K len : Nat → Nat} {I I' : Nat → Nat → Int32} {J : Nat → Nat → Int64} {R R' : Nat → Nat → Option Nat} {q kd n k : Nat}
theorem Con.start (h : Sf K len I R) (hk : K a = 21 + ci) (hI : I a = Z) (hR : ∀ k, R a k = none) : Con K len I R a ci Z [] K len I R := ⟨h, hk, hI, fun _ z => by cases z, fun k _ => hR k, fun _ _ _ => ⟨rfl, rfl, rfl, rfl⟩⟩
theorem Con.ne0 (c : Con K0 len0 I0 R0 a ci Z F K len I R) : K a ≠ 0 := by rw [c.2.1]; omega
theorem Con.up (c : Con K0 len0 I0 R0 a ci Z F K len I R) (hci : ci ≤ 10) : pkU (K a) = true := by
  rw [c.2.1]; unfold pkU; simp only [Bool.or_eq_true, Bool.and_eq_true, Nat.ble_eq, beq_iff_eq]; omega
/-- a row made, and put into the field k -/
theorem Con.row (c : Con K0 len0 I0 R0 a ci Z F K len I R) (hci : ci ≤ 10) (hq : K q = 0) (hp : pk kd = true) (hF : ∀ e ∈ F, e.1 ≠ k) (e : R' = up2 (z2 R q none) a k (some q)) : Con K0 len0 I0 R0 a ci Z ((k, kd, n) :: F) (va_up K q kd) (va_up len q n) (z2 I q 0) R' := by
  have haq : a ≠ q := fun z => c.ne0 (by rw [z]; exact hq)
  have ka : va_up K q kd a = 21 + ci := by rw [va_up_ne _ _ haq]; exact c.2.1
  refine ⟨(c.1.grow hq hp).setR (a := a) (by rw [va_up_ne _ _ haq]; exact c.up hci) e, ka, ?_, fun en hen => ?_, fun j hj => ?_, fun b hb hba => ?_⟩
  · funext j; rw [z2_ne _ _ _ haq]; exact congrFun c.2.2.1 j
  · rcases List.mem_cons.mp hen with rfl | hen
    · exact ⟨q, by rw [e, up2_self], va_up_self _ _ _, ⟨haq.symm, fun z => by rw [z] at hp; exact absurd hp (by decide)⟩, fun _ => va_up_self _ _ _⟩
    · obtain ⟨b, h1, h2, h3, h4⟩ := c.2.2.2.1 en hen
      have hbq : b ≠ q := fun z => h3.2 (by rw [← h2, z, hq])
      exact ⟨b, by rw [e, up2_ne _ _ (Or.inr (hF en hen)), z2_ne _ _ _ haq]; exact h1, by rw [va_up_ne _ _ hbq]; exact h2, h3, fun z => by rw [va_up_ne _ _ hbq]; exact h4 z⟩
  · rw [e, up2_ne _ _ (Or.inr ?_), z2_ne _ _ _ haq]
    · exact c.2.2.2.2.1 j (fun en hen => hj en (List.mem_cons_of_mem _ hen))
    · exact fun z => hj (k, kd, n) List.mem_cons_self z.symm
  · obtain ⟨h1, h2, h3, h4⟩ := c.2.2.2.2.2 b hb hba
    have hbq : b ≠ q := fun z => hb (by rw [← h1, z, hq])
    refine ⟨by rw [va_up_ne _ _ hbq]; exact h1, by rw [va_up_ne _ _ hbq]; exact h2, ?_, ?_⟩
    · funext j; rw [z2_ne _ _ _ hbq]; exact congrFun h3 j
    · funext j; rw [e, up2_ne _ _ (Or.inl hba), z2_ne _ _ _ hbq]; exact congrFun h4 j
end MAKE
