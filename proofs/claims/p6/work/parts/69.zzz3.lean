def Rs (D : DD) (s d : Nat) (v w : Int) (p : Nat) : Int := if D 7 s = 4 ∧ 0 < d ∧ D 9 s ≤ v then 0 else max 0 (D 2 p - w)
def Sp (D : DD) (s : Nat) (A : Nat → Int) (d : Nat) (v w : Int) (p : Nat) : Int := max 0 (D 1 p + A d - Rs D s d v w p) / 10
def gs (v : Nat → Int) (d g : Int) : Nat → Int
  | 0 => g
  | p + 1 => if 100 ≤ v p then d else gs v d g p
def Cs (D : DD) (s : Nat) (A : Nat → Int) : Nat → (Nat → Int) × (Nat → Int) × (Nat → Int) × Int
  | 0 => (fun _ => 0, fun _ => 0, fun _ => 0, -2)
  | d + 1 => (fun p => if (Cs D s A d).2.2.2 = -2 then Sp D s A d ((Cs D s A d).1 p) ((Cs D s A d).2.2.1 p) p else 0,
      fun p => (Cs D s A d).2.1 p + (if (Cs D s A d).2.2.2 = -2 then Sp D s A d ((Cs D s A d).1 p) ((Cs D s A d).2.2.1 p) p else 0),
      fun p => (Cs D s A d).2.2.1 p + (if D 7 s = 3 ∧ D 9 s ≤ (Cs D s A d).2.1 p + (if (Cs D s A d).2.2.2 = -2 then Sp D s A d ((Cs D s A d).1 p) ((Cs D s A d).2.2.1 p) p else 0) then (if (Cs D s A d).2.2.2 = -2 then Sp D s A d ((Cs D s A d).1 p) ((Cs D s A d).2.2.1 p) p else 0) else 0),
      gs (fun p => if (Cs D s A d).2.2.2 = -2 then Sp D s A d ((Cs D s A d).1 p) ((Cs D s A d).2.2.1 p) p else 0) d (Cs D s A d).2.2.2 (D 0 5).toNat)
/-- the speed, the inches, the worn of peg p on day d; the day it is gone, behind n days -/
def SV (D : DD) (s : Nat) (A : Nat → Int) (d p : Nat) : Int := (Cs D s A (d + 1)).1 p
def NV (D : DD) (s : Nat) (A : Nat → Int) (d p : Nat) : Int := (Cs D s A (d + 1)).2.1 p
def WV (D : DD) (s : Nat) (A : Nat → Int) (d p : Nat) : Int := (Cs D s A (d + 1)).2.2.1 p
def GV (D : DD) (s : Nat) (A : Nat → Int) (n : Nat) : Int := (Cs D s A n).2.2.2
section CRS
variable {D : DD} {s d p : Nat} {A : Nat → Int}
/-- the rows behind n days, and behind p pegs of the next -/
def CRi (D : DD) (s : Nat) (A : Nat → Int) (sr ir wr tr n p : Nat) (I : Nat → Nat → Int32) : Prop := (∀ d q : Nat, (d < n ∨ (d = n ∧ q < p)) → (q : Int) < D 0 5 → (I sr (60 * q + d)).toInt = SV D s A d q ∧ (I ir (60 * q + d)).toInt = NV D s A d q ∧ (I wr (60 * q + d)).toInt = WV D s A d q) ∧ (∀ j : Nat, j < n → (I tr j).toInt = Ps (SV D s A j) (D 0 5).toNat)
theorem CRi.peg {sr ir wr tr n p : Nat} {I I1 : Nat → Nat → Int32} (h : CRi D s A sr ir wr tr n p I) (hn : n < 60) (h1 : (I1 sr (60 * p + n)).toInt = SV D s A n p) (h2 : (I1 ir (60 * p + n)).toInt = NV D s A n p) (h3 : (I1 wr (60 * p + n)).toInt = WV D s A n p) (ho : ∀ b k, (b = sr ∨ b = ir ∨ b = wr) → k ≠ 60 * p + n → I1 b k = I b k) (ht : ∀ j, j < n → I1 tr j = I tr j) : CRi D s A sr ir wr tr n (p + 1) I1 := by
  refine ⟨fun d q hd hq => ?_, fun j hj => by rw [ht j hj]; exact h.2 j hj⟩
  by_cases hc : d = n ∧ q = p
  · obtain ⟨rfl, rfl⟩ := hc; exact ⟨h1, h2, h3⟩
  · have hne : 60 * q + d ≠ 60 * p + n := by omega
    rw [ho sr _ (Or.inl rfl) hne, ho ir _ (Or.inr (Or.inl rfl)) hne, ho wr _ (Or.inr (Or.inr rfl)) hne]
    exact h.1 d q (by omega) hq
end CRS
