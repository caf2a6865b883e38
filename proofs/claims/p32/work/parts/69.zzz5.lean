def CRj (D : DD) (s : Nat) (A : Nat → Int) (sr ir wr n p : Nat) (I : Nat → Nat → Int32) : Prop := ∀ d q : Nat, (d < n ∨ (d = n ∧ q < p)) → (q : Int) < D 0 5 → (I sr (60 * q + d)).toInt = SV D s A d q ∧ (I ir (60 * q + d)).toInt = NV D s A d q ∧ (I wr (60 * q + d)).toInt = WV D s A d q
section RUN
variable {D : DD} {s : Nat} {A : Nat → Int} {sr ir wr n p : Nat} {I I1 : Nat → Nat → Int32}
theorem CRj.peg (h : CRj D s A sr ir wr n p I) (hn : n < 60) (h1 : (I1 sr (60 * p + n)).toInt = SV D s A n p) (h2 : (I1 ir (60 * p + n)).toInt = NV D s A n p) (h3 : (I1 wr (60 * p + n)).toInt = WV D s A n p) (ho : ∀ b k, (b = sr ∨ b = ir ∨ b = wr) → k ≠ 60 * p + n → I1 b k = I b k) : CRj D s A sr ir wr n (p + 1) I1 := by
  intro d q hd hq
  by_cases hc : d = n ∧ q = p
  · obtain ⟨rfl, rfl⟩ := hc; exact ⟨h1, h2, h3⟩
  · have hne : 60 * q + d ≠ 60 * p + n := by omega
    rw [ho sr _ (Or.inl rfl) hne, ho ir _ (Or.inr (Or.inl rfl)) hne, ho wr _ (Or.inr (Or.inr rfl)) hne]
    exact h d q (by omega) hq
theorem CRj.day (h : CRj D s A sr ir wr n p I) (hp : D 0 5 ≤ (p : Int)) : CRj D s A sr ir wr (n + 1) 0 I := fun d q hd hq => h d q (by omega) hq
theorem CRj.eq (h : CRj D s A sr ir wr n p I) (e : ∀ b k, b = sr ∨ b = ir ∨ b = wr → I1 b k = I b k) : CRj D s A sr ir wr n p I1 := by
  intro d q hd hq
  rw [e sr _ (Or.inl rfl), e ir _ (Or.inr (Or.inl rfl)), e wr _ (Or.inr (Or.inr rfl))]; exact h d q hd hq
end RUN
