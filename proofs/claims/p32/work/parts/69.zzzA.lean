section CALLS
variable {D : DD} {E : Nat → Nat → Int} {x h lk rd s c : Nat} {K len : Nat → Nat} {I I0 I1 I2 : Nat → Nat → Int32} {R : Nat → Nat → Option Nat}
theorem KN.eq (hk : KN D x I R) (ka : KA x h lk rd K len R) (hF : ∀ a k, K a = 1 ∨ (50 ≤ K a ∧ K a ≤ 53) → I1 a k = I a k) (hkn : ∀ kn, R x 6 = some kn → ∀ j, I1 kn j = I kn j) : KN D x I1 R := by
  intro kn cr s c g1 g2 g3 g4 g5 g7
  rw [hkn kn g1] at g5
  obtain ⟨I0, hs⟩ := ka.1
  have kc := (kcr hs ka.2.2.1 g2 g3 g4).2
  refine (hk kn cr s c g1 g2 g3 g4 g5 g7).eq (fun b k z => hF b k ?_)
  rcases z with rfl | ⟨j, hj, z⟩
  · exact Or.inl kc
  · have := rk1 hs kc (by omega : j < 5) z
    exact Or.inr (by omega)
theorem KN_0 (hk : ∀ kn, R x 6 = some kn → ∀ j : Nat, j < 6 → (I kn j).toInt = 0) : KN D x I R := fun kn cr s c g1 g2 g3 g4 g5 _ => absurd (hk kn g1 s g3) g5
/-- another hill, or another plan -/
theorem KC.re {D' : DD} (hc : KC D E x h lk rd I R) (h5 : D' 0 5 = D 0 5) (h6 : D' 0 6 = D 0 6) (h7 : D' 0 7 = D 0 7) (hr : RW (CC h lk R) (cntN D') D' I1) (hsc : scC D' h lk I1) (hl : 1 ≤ D 0 7 → DJ D' ∧ ∀ lv, R x 4 = some lv → LvR D' lv I1) (hkn : KN D' x I1 R) (hr0 : (I1 rd 0).toInt = (I rd 0).toInt) (hrd : ∀ a k, (∃ r, r < 4 ∧ R rd (r + 1) = some a) → I1 a k = I a k) : KC D' E x h lk rd I1 R := by
  obtain ⟨c1, c2, c3, c4, c5, c6⟩ := hc
  refine ⟨hr, hsc, fun z => ?_, hkn, fun r j a g1 g2 g3 => ?_, fun j g3 => ?_⟩
  · rw [h7] at z
    exact ⟨(hl z).1, by rw [h6]; exact (c3 z).2.1, (hl z).2⟩
  · rw [hr0] at g3
    rw [hrd a j ⟨r, g1, g2⟩]; exact c5 r j a g1 g2 g3
  · rw [hr0] at g3
    have := c6 j g3
    unfold EBj at this ⊢; rw [h5]; exact this
def RdA (f : Nat) (E : Nat → Nat → Int) (o : Nat) (I : Nat → Nat → Int32) (R : Nat → Nat → Option Nat) (n : Int) : Prop := ∀ r j a : Nat, r < 4 → R o (r + f) = some a → (j : Int) < n → (I a j).toInt = E r j
def apE (E : Nat → Nat → Int) (c : Nat) (p d i o : Int) : Nat → Nat → Int := fun r j => if j = c then (if r = 0 then p else if r = 1 then d else if r = 2 then i else o) else E r j
theorem apE_n {c r j : Nat} {p d i o : Int} (hj : j ≠ c) : apE E c p d i o r j = E r j := if_neg hj
theorem apE_0 {c : Nat} {p d i o : Int} : apE E c p d i o 0 c = p := by unfold apE; rw [if_pos rfl, if_pos rfl]
theorem apE_1 {c : Nat} {p d i o : Int} : apE E c p d i o 1 c = d := by unfold apE; rw [if_pos rfl, if_neg (by decide), if_pos rfl]
theorem apE_2 {c : Nat} {p d i o : Int} : apE E c p d i o 2 c = i := by unfold apE; rw [if_pos rfl, if_neg (by decide), if_neg (by decide), if_pos rfl]
theorem apE_3 {c : Nat} {p d i o : Int} : apE E c p d i o 3 c = o := by unfold apE; rw [if_pos rfl, if_neg (by decide), if_neg (by decide), if_neg (by decide)]
theorem RdA_add {f o r0 r1 r2 r3 c : Nat} {p d i u : Int} (h0 : R o f = some r0) (h1 : R o (f + 1) = some r1) (h2 : R o (f + 2) = some r2) (h3 : R o (f + 3) = some r3) (v0 : (I1 r0 c).toInt = p) (v1 : (I1 r1 c).toInt = d) (v2 : (I1 r2 c).toInt = i) (v3 : (I1 r3 c).toInt = u) (o0 : ∀ k, k ≠ c → I1 r0 k = I r0 k) (o1 : ∀ k, k ≠ c → I1 r1 k = I r1 k) (o2 : ∀ k, k ≠ c → I1 r2 k = I r2 k) (o3 : ∀ k, k ≠ c → I1 r3 k = I r3 k) (hA : RdA f E o I R c) : RdA f (apE E c p d i u) o I1 R ((c : Int) + 1) := by
  intro r j a hr ha hj
  have hc : r = 0 ∨ r = 1 ∨ r = 2 ∨ r = 3 := by omega
  by_cases hjc : j = c
  · subst hjc
    rcases hc with rfl | rfl | rfl | rfl
    · rw [Nat.zero_add, h0] at ha; cases ha; rw [v0, apE_0]
    · rw [Nat.add_comm, h1] at ha; cases ha; rw [v1, apE_1]
    · rw [Nat.add_comm, h2] at ha; cases ha; rw [v2, apE_2]
    · rw [Nat.add_comm, h3] at ha; cases ha; rw [v3, apE_3]
  · rw [apE_n hjc, ← hA r j a hr ha (by omega)]
    rcases hc with rfl | rfl | rfl | rfl
    · rw [Nat.zero_add, h0] at ha; cases ha; rw [o0 j hjc]
    · rw [Nat.add_comm, h1] at ha; cases ha; rw [o1 j hjc]
    · rw [Nat.add_comm, h2] at ha; cases ha; rw [o2 j hjc]
    · rw [Nat.add_comm, h3] at ha; cases ha; rw [o3 j hjc]
theorem RdA_sm {f o r0 r1 r2 r3 c : Nat} {n : Int} (hn : n ≤ c) (h0 : R o f = some r0) (h1 : R o (f + 1) = some r1) (h2 : R o (f + 2) = some r2) (h3 : R o (f + 3) = some r3) (o0 : ∀ k, k ≠ c → I1 r0 k = I r0 k) (o1 : ∀ k, k ≠ c → I1 r1 k = I r1 k) (o2 : ∀ k, k ≠ c → I1 r2 k = I r2 k) (o3 : ∀ k, k ≠ c → I1 r3 k = I r3 k) (hA : RdA f E o I R n) : RdA f E o I1 R n := by
  intro r j a hr ha hj
  have hc : r = 0 ∨ r = 1 ∨ r = 2 ∨ r = 3 := by omega
  have hjc : j ≠ c := by omega
  rw [← hA r j a hr ha hj]
  rcases hc with rfl | rfl | rfl | rfl
  · rw [Nat.zero_add, h0] at ha; cases ha; rw [o0 j hjc]
  · rw [Nat.add_comm, h1] at ha; cases ha; rw [o1 j hjc]
  · rw [Nat.add_comm, h2] at ha; cases ha; rw [o2 j hjc]
  · rw [Nat.add_comm, h3] at ha; cases ha; rw [o3 j hjc]
theorem RdA.mv {n : Int} (h : RdA 1 E rd I R n) (hs : Sf K len I0 R) (krd : K rd = 4) (e : ∀ b k, (K b = 46 ∨ K b = 47 ∨ K b = 65 ∨ K b = 66) → I1 b k = I b k) : RdA 1 E rd I1 R n := fun r j a hr ha hj => by rw [e a j (rk4 hs krd hr ha)]; exact h r j a hr ha hj
end CALLS
