def MC (D : DD) (E : Nat → Nat → Int) (m hm : Nat) (I : Nat → Nat → Int32) (R : Nat → Nat → Option Nat) : Prop := (DJ D ∧ D 0 6 ≤ 6 ∧ 1 ≤ D 0 7) ∧ RW (CM hm R) (cntN D) D I ∧ scM D hm I ∧ RdM E m I R ∧ ∀ j : Nat, (j : Int) < (I m 20).toInt → EBj D E j
def MO (D : DD) (s : Nat) (L : Nat → Int) (wet : Int) (m lr sr ir wr : Nat) (I : Nat → Nat → Int32) : Prop := (∀ j : Nat, j < 60 → (I lr j).toInt = L j) ∧ CRj D s (Ad D s L wet) sr ir wr 60 0 I ∧ (I m 19).toInt = GV D s (Ad D s L wet) 60
def qN (y : Nat) : Bool := qM y || y == 10 || y == 89 || y == 90 || y == 91 || y == 92
def okN (l : List (Nat × Nat)) : Bool := okQ qN l && !(inS l 11 20)
def qO (y : Nat) : Bool := Nat.ble 85 y && Nat.ble y 88
def okOm (l : List (Nat × Nat)) : Bool := okQ qO l && !(inS l 11 19)
theorem qN_big : ∀ x, 1000 ≤ x → qN x = true → qN 1000 = true := fun _ _ _ => rfl
theorem qO_big : ∀ x, 1000 ≤ x → qO x = true → qO 1000 = true := by
  intro x hx h; simp only [qO, Bool.and_eq_true, Nat.ble_eq] at h; omega
section MKEEP
variable {D : DD} {E : Nat → Nat → Int} {m hm s lr sr ir wr : Nat} {K len : Nat → Nat} {I I0 I1 : Nat → Nat → Int32} {R : Nat → Nat → Option Nat} {L : Nat → Int} {wet : Int} {l : List (Nat × Nat)}
theorem rkm (hs : Sf K len I0 R) (km : K m = 11) {r a : Nat} (hr : r < 4) (ha : R m (r + 21) = some a) : K a = 89 ∨ K a = 90 ∨ K a = 91 ∨ K a = 92 := by
  have : r = 0 ∨ r = 1 ∨ r = 2 ∨ r = 3 := by omega
  rcases this with rfl | rfl | rfl | rfl
  · exact Or.inl (refK hs (n := 24) km (by decide) ha)
  · exact Or.inr (Or.inl (refK hs (n := 24) km (by decide) ha))
  · exact Or.inr (Or.inr (Or.inl (refK hs (n := 24) km (by decide) ha)))
  · exact Or.inr (Or.inr (Or.inr (refK hs (n := 24) km (by decide) ha)))
theorem MC.mv (hc : MC D E m hm I R) (hs : Sf K len I0 R) (km : K m = 11) (khm : K hm = 10) (hF : Fr K l I I1) (ho : okN l = true) : MC D E m hm I1 R := by
  simp only [okN, Bool.and_eq_true, Bool.not_eq_true'] at ho
  have he : ∀ a k, qN (K a) = true → I1 a k = I a k := fun a k z => hF.get rfl (okQ_in ho.1 qN_big z k)
  have h20 : I1 m 20 = I m 20 := hF.get km ho.2
  have eh : ∀ k, I1 hm k = I hm k := fun k => he hm k (by rw [khm]; rfl)
  obtain ⟨c1, c2, c3, c4, c5⟩ := hc
  refine ⟨c1, c2.eq (fun r j a k hC => he a k ?_), ?_, fun r j a hr ha hj => ?_, fun j hj => c5 j (by rw [h20] at hj; exact hj)⟩
  · have := (CM_x hs khm).1 r j a k hC; simp only [qN, this, Bool.true_or]
  · unfold scM; simp only [eh]; exact c3
  · rw [h20] at hj
    rw [he a j (by rcases rkm hs km hr ha with z | z | z | z <;> rw [z] <;> rfl)]; exact c4 r j a hr ha hj
theorem MO.mv (h : MO D s L wet m lr sr ir wr I) (km : K m = 11) (klr : K lr = 85) (ksr : K sr = 86) (kir : K ir = 87) (kwr : K wr = 88) (hF : Fr K l I I1) (ho : okOm l = true) : MO D s L wet m lr sr ir wr I1 := by
  simp only [okOm, Bool.and_eq_true, Bool.not_eq_true'] at ho
  have he : ∀ a k, qO (K a) = true → I1 a k = I a k := fun a k z => hF.get rfl (okQ_in ho.1 qO_big z k)
  refine ⟨fun j hj => by rw [he lr j (by rw [klr]; rfl)]; exact h.1 j hj, h.2.1.eq (fun b k z => ?_), by rw [hF.get km ho.2]; exact h.2.2⟩
  rcases z with rfl | rfl | rfl
  · exact he _ k (by rw [ksr]; rfl)
  · exact he _ k (by rw [kir]; rfl)
  · exact he _ k (by rw [kwr]; rfl)
theorem MO.spd (h : MO D s L wet m lr sr ir wr I) {d p : Nat} (hd : d < 60) (hp : (p : Int) < D 0 5) : (I sr (60 * p + d)).toInt = SV D s (Ad D s L wet) d p := (h.2.1 d p (Or.inl hd) hp).1
theorem MO.inc (h : MO D s L wet m lr sr ir wr I) {d p : Nat} (hd : d < 60) (hp : (p : Int) < D 0 5) : (I ir (60 * p + d)).toInt = NV D s (Ad D s L wet) d p := (h.2.1 d p (Or.inl hd) hp).2.1
theorem MO.wrn (h : MO D s L wet m lr sr ir wr I) {d p : Nat} (hd : d < 60) (hp : (p : Int) < D 0 5) : (I wr (60 * p + d)).toInt = WV D s (Ad D s L wet) d p := (h.2.1 d p (Or.inl hd) hp).2.2
theorem MC.adb (hc : MC D E m hm I R) (hs : (s : Int) < D 0 7) {w2 : Int} : ∀ d, 0 ≤ Ad D s (LP1 D) w2 d ∧ Ad D s (LP1 D) w2 d ≤ 300000 := Ad_b hc.1.1 hc.1.2.1 hs (LP1_b hc.1.1)
theorem MC.svb (hc : MC D E m hm I R) (hs : (s : Int) < D 0 7) {w2 : Int} (d p : Nat) : 0 ≤ SV D s (Ad D s (LP1 D) w2) d p ∧ SV D s (Ad D s (LP1 D) w2) d p ≤ 30100 := SV_b hc.1.1 (hc.adb hs) d p
theorem MC.nvb (hc : MC D E m hm I R) (hs : (s : Int) < D 0 7) {w2 : Int} (d p : Nat) (hd : d < 60) : 0 ≤ NV D s (Ad D s (LP1 D) w2) d p ∧ NV D s (Ad D s (LP1 D) w2) d p ≤ 1806000 := by
  have h := (Cs_b (s := s) hc.1.1 (hc.adb hs (w2 := w2)) (d + 1) p).2.1
  refine ⟨h.1, Int.le_trans h.2 ?_⟩
  have : ((d + 1 : Nat) : Int) = d + 1 := by omega
  rw [this]; omega
theorem MC.rdr (hc : MC D E m hm I R) {r j a : Nat} (hr : r < 4) (ha : R m (r + 21) = some a) (hj : (j : Int) < (I m 20).toInt) : (I a j).toInt = E r j := hc.2.2.2.1 r j a hr ha hj
theorem MC.rdb (hc : MC D E m hm I R) {j : Nat} (hj : (j : Int) < (I m 20).toInt) : EBj D E j := hc.2.2.2.2 j hj
theorem MC.hrw (hc : MC D E m hm I R) {r j a : Nat} (h1 : 1 ≤ r) (h2 : r ≤ 14) (ha : R hm (r + 10) = some a) (hj : (j : Int) < cntN D r) (h9 : rel9 D r j) : (I a j).toInt = D r j := hc.2.1 r j a j (cM h1 h2 ha) hj h9
end MKEEP
