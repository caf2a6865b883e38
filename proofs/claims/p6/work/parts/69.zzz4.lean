def Wq (D : DD) (s : Nat) (A L : Nat → Int) (n : Nat) : Int := if GV D s A n = -2 then 0 else Ps (SV D s A (GV D s A n).toNat) (D 0 5).toNat * L (GV D s A n).toNat / 100
section FOL
variable {D : DD} {s : Nat} {A L : Nat → Int} {sr ir wr tr n p : Nat} {I I1 : Nat → Nat → Int32}
theorem CRi.eq (h : CRi D s A sr ir wr tr n p I) (e : ∀ b k, b = sr ∨ b = ir ∨ b = wr ∨ b = tr → I1 b k = I b k) : CRi D s A sr ir wr tr n p I1 := by
  refine ⟨fun d q hd hq => ?_, fun j hj => by rw [e tr j (Or.inr (Or.inr (Or.inr rfl)))]; exact h.2 j hj⟩
  rw [e sr _ (Or.inl rfl), e ir _ (Or.inr (Or.inl rfl)), e wr _ (Or.inr (Or.inr (Or.inl rfl)))]; exact h.1 d q hd hq
end FOL
