def MC (D : DD) (E : Nat → Nat → Int) (m hm : Nat) (I : Nat → Nat → Int32) (R : Nat → Nat → Option Nat) : Prop := (DJ D ∧ D 0 6 ≤ 6 ∧ 1 ≤ D 0 7) ∧ RW (CM hm R) (cntN D) D I ∧ scM D hm I ∧ RdM E m I R ∧ ∀ j : Nat, (j : Int) < (I m 20).toInt → EBj D E j
def MO (D : DD) (s : Nat) (L : Nat → Int) (wet : Int) (m lr sr ir wr : Nat) (I : Nat → Nat → Int32) : Prop := (∀ j : Nat, j < 60 → (I lr j).toInt = L j) ∧ CRj D s (Ad D s L wet) sr ir wr 60 0 I ∧ (I m 19).toInt = GV D s (Ad D s L wet) 60
def qN (y : Nat) : Bool := qM y || y == 10 || y == 89 || y == 90 || y == 91 || y == 92
def okN (l : List (Nat × Nat)) : Bool := okQ qN l && !(inS l 11 20)
def qO (y : Nat) : Bool := Nat.ble 85 y && Nat.ble y 88
def okOm (l : List (Nat × Nat)) : Bool := okQ qO l && !(inS l 11 19)
theorem qN_big : ∀ x, 1000 ≤ x → qN x = true → qN 1000 = true := fun _ _ _ => rfl
theorem qO_big : ∀ x, 1000 ≤ x → qO x = true → qO 1000 = true := by
  intro x hx h; simp only [qO, Bool.and_eq_true, Nat.ble_eq] at h; omega
section MKEEP
variable {D : DD} {E : Nat → Nat → Int} {m hm s lr sr ir wr : Nat} {K len : Nat → Nat} {I I0 I1 : Nat → Nat → Int32} {R : Nat → Nat → Option Nat} {L : Nat → Int} {wet : Int} {l : List (Nat × Nat)}
theorem rkm (hs : Sf K len I0 R) (km : K m = 11) {r a : Nat} (hr : r < 4) (ha : R m (r + 21) = some a) : K a = 89 ∨ K a = 90 ∨ K a = 91 ∨ K a = 92 := by
  have : r = 0 ∨ r = 1 ∨ r = 2 ∨ r = 3 := by omega
  rcases this with rfl | rfl | rfl | rfl
  · exact Or.inl (refK hs (n := 24) km (by decide) ha)
  · exact Or.inr (Or.inl (refK hs (n := 24) km (by decide) ha))
  · exact Or.inr (Or.inr (Or.inl (refK hs (n := 24) km (by decide) ha)))
  · exact Or.inr (Or.inr (Or.inr (refK hs (n := 24) km (by decide) ha)))
theorem MC.mv (hc : MC D E m hm I R) (hs : Sf K len I0 R) (km : K m = 11) (khm : K hm = 10) (hF : Fr K l I I1) (ho : okN l = true) : MC D E m hm I1 R := by
  simp only [okN, Bool.and_eq_true, Bool.not_eq_true'] at ho
  have he : ∀ a k, qN (K a) = true → I1 a k = I a k := fun a k z => hF.get rfl (okQ_in ho.1 qN_big z k)
  have h20 : I1 m 20 = I m 20 := hF.get km ho.2
  have eh : ∀ k, I1 hm k = I hm k := fun k => he hm k (by rw [khm]; rfl)
  obtain ⟨c1, c2, c3, c4, c5⟩ := hc
  refine ⟨c1, c2.eq (fun r j a k hC => he a k ?_), ?_, fun r j a hr ha hj => ?_, fun j hj => c5 j (by rw [h20] at hj; exact hj)⟩
  · have := (CM_x hs khm).1 r j a k hC; simp only [qN, this, Bool.true_or]
  · unfold scM; simp only [eh]; exact c3
  · rw [h20] at hj
    rw [he a j (by rcases rkm hs km hr ha with z | z | z | z <;> rw [z] <;> rfl)]; exact c4 r j a hr ha hj
theorem MO.mv (h : MO D s L wet m lr sr ir wr I) (km : K m = 11) (klr : K lr = 85) (ksr : K sr = 86) (kir : K ir = 87) (kwr : K wr = 88) (hF : Fr K l I I1) (ho : okOm l = true) : MO D s L wet m lr sr ir wr I1 := by
  simp only [okOm, Bool.and_eq_true, Bool.not_eq_true'] at ho
  have he : ∀ a k, qO (K a) = true → I1 a k = I a k := fun a k z => hF.get rfl (okQ_in ho.1 qO_big z k)
  refine ⟨fun j hj => by rw [he lr j (by rw [klr]; rfl)]; exact h.1 j hj, h.2.1.eq (fun b k z => ?_), by rw [hF.get km ho.2]; exact h.2.2⟩
  rcases z with rfl | rfl | rfl
  · exact he _ k (by rw [ksr]; rfl)
  · exact he _ k (by rw [kir]; rfl)
  · exact he _ k (by rw [kwr]; rfl)
theorem MO.spd (h : MO D s L wet m lr sr ir wr I) {d p : Nat} (hd : d < 60) (hp : (p : Int) < D 0 5) : (I sr (60 * p + d)).toInt = SV D s (Ad D s L wet) d p := (h.2.1 d p (Or.inl hd) hp).1
theorem MO.inc (h : MO D s L wet m lr sr ir wr I) {d p : Nat} (hd : d < 60) (hp : (p : Int) < D 0 5) : (I ir (60 * p + d)).toInt = NV D s (Ad D s L wet) d p := (h.2.1 d p (Or.inl hd) hp).2.1
theorem MO.wrn (h : MO D s L wet m lr sr ir wr I) {d p : Nat} (hd : d < 60) (hp : (p : Int) < D 0 5) : (I wr (60 * p + d)).toInt = WV D s (Ad D s L wet) d p := (h.2.1 d p (Or.inl hd) hp).2.2
theorem MC.adb (hc : MC D E m hm I R) (hs : (s : Int) < D 0 7) {w2 : Int} : ∀ d, 0 ≤ Ad D s (LP1 D) w2 d ∧ Ad D s (LP1 D) w2 d ≤ 300000 := Ad_b hc.1.1 hc.1.2.1 hs (LP1_b hc.1.1)
theorem MC.svb (hc : MC D E m hm I R) (hs : (s : Int) < D 0 7) {w2 : Int} (d p : Nat) : 0 ≤ SV D s (Ad D s (LP1 D) w2) d p ∧ SV D s (Ad D s (LP1 D) w2) d p ≤ 30100 := SV_b hc.1.1 (hc.adb hs) d p
theorem MC.nvb (hc : MC D E m hm I R) (hs : (s : Int) < D 0 7) {w2 : Int} (d p : Nat) (hd : d < 60) : 0 ≤ NV D s (Ad D s (LP1 D) w2) d p ∧ NV D s (Ad D s (LP1 D) w2) d p ≤ 1806000 := by
  have h := (Cs_b (s := s) hc.1.1 (hc.adb hs (w2 := w2)) (d + 1) p).2.1
  refine ⟨h.1, Int.le_trans h.2 ?_⟩
  have : ((d + 1 : Nat) : Int) = d + 1 := by omega
  rw [this]; omega
theorem MC.hrw (hc : MC D E m hm I R) {r j a : Nat} (h1 : 1 ≤ r) (h2 : r ≤ 14) (ha : R hm (r + 10) = some a) (hj : (j : Int) < cntN D r) (h9 : rel9 D r j) : (I a j).toInt = D r j := hc.2.1 r j a j (cM h1 h2 ha) hj h9
end MKEEP
set_option maxHeartbeats 4000000 in
set_option maxRecDepth 100000 in
theorem f_X10_runsAsTold (g : GG) (l : Launch) (K len : Nat → Nat) (I : Nat → Nat → Int32) (J : Nat → Nat → Int64) (R : Nat → Nat → Option Nat) (hs : Sf K len I R) (a0 : Nat) (ka0 : K a0 = 11) (x1 : Int32) (hm : Nat) (hbm : R a0 3 = some hm) (khm : K hm = 10) (ps1 : x1.toInt < (I hm 7).toInt) (lr : Nat) (hlr : R a0 15 = some lr) (klr : K lr = 85) (llr : len lr = 60) (sr : Nat) (hsr : R a0 16 = some sr) (ksr : K sr = 86) (lsr : len sr = 300) (ir : Nat) (hir : R a0 17 = some ir) (kir : K ir = 87) (lir : len ir = 300) (wr : Nat) (hwr : R a0 18 = some wr) (kwr : K wr = 88) (lwr : len wr = 300) (D : DD) (E : Nat → Nat → Int) (mc : MC D E a0 hm I R) (p0 : 0 ≤ x1.toInt) (p1 : x1.toInt ≤ 5) : Ct g l yX10_runsAsTold cX10_runsAsTold 2 (Option.none : Option Jvm.ClassFile.FieldType) rmX10_runsAsTold [.ref a0, .int x1] (K, len, I, J, R) (pV1 (K, len, I, J, R) (fun I' => Sf K len I' R ∧ Fr K [(11, 19), (85, 999), (86, 999), (87, 999), (88, 999)] I I' ∧ (MO D x1.toInt.toNat (LP1 D) 1 a0 lr sr ir wr I'))) := by
  refine Ct_intro (by decide +kernel) (Nat.le_of_ble_eq_true rfl) (fun X hC hL hKK hNm hr hlk hQ => ?_)
  subst hL
  have hC : Cx g X cX10_runsAsTold "HillTapModel" 2 rmX10_runsAsTold := hC
  show P g X 2 0 [(0, .ref a0), (1, .int x1)] [] 0 0 (K, len, I, J, R)
  have hF : Fr K [(11, 19), (85, 999), (86, 999), (87, 999), (88, 999)] I I := Fr.refl
  obtain ⟨⟨hJ, hR6, hD7⟩, rwm, ⟨hd1, hd2, hd3, hd4, hd5, hd7, hd8, hd9⟩, -⟩ := id mc
  have hcx := CM_x hs khm
  have b5 := hs.rng khm (k := 3) rfl (x := I hm 3) rfl
  have b7 := hs.rng khm (k := 7) rfl (x := I hm 7) rfl
  have b8 := hs.rng khm (k := 8) rfl (x := I hm 8) rfl
  have b20 := hs.rng ka0 (k := 20) rfl (x := I a0 20) rfl
  obtain ⟨rr, hrr, krr, lrr⟩ := hs.row khm 15 74 60 (by decide) (by decide)
  have b_x1 := ti_rng x1
  obtain ⟨S0, eS0⟩ : ∃ z : Int32, z = I hm 7 := ⟨_, rfl⟩
  have fS0 : S0.toInt = (I hm 7).toInt := by rw [eS0]
  have rS0 := hs.rng khm rfl eS0
  refine r_aload_n hC dX10_runsAsTold_0 0 rfl ?_
  refine r_bipush hC (v := (60)) dX10_runsAsTold_1 (by decide) (by decide) (fun x1_ e1 t1 => ?_)
  refine r_iconst hC (v := (-1)) dX10_runsAsTold_3 (by decide) (by decide) (fun x2_ e2 t2 => ?_)
  refine r_callV hC (As := [.int x1_, .int x2_]) (rest := []) (ci := 10) (f_X10_fills g (xL X) K len I J R hs a0 ka0 x1_ x2_ hm hbm khm D hJ (rwm.mv hcx qM_big hF rfl) (by rw [hF.get khm rfl]; exact hd1) (by rw [hF.get khm rfl]; exact hd2) (by rw [hF.get khm rfl]; exact hd3) (by rw [hF.get khm rfl]; exact hd4) lr hlr klr llr (by omega)) mT_6_99 mT_1_10 mT_6_96 mT_6_98 mP_69 okX10_fills ⟨by decide, by decide⟩ rfl (by show kO (K a0) = _; rw [ka0]; rfl) rfl rfl (Nat.le_of_ble_eq_true rfl) ⟨by decide, by decide⟩ dX10_runsAsTold_4 (aV1 (F := fun st M => P g X 2 7 [(0, .ref a0), (1, .int x1)] st _ _ M) (M := (K, len, I, J, R)) fun I3 h3 => ?_)
  obtain ⟨hs3, hf3, k3_0⟩ := h3
  show P g X 2 7 [(0, .ref a0), (1, .int x1)] [] _ _ (K, len, I3, J, R)
  have hF3 : Fr K [(11, 19), (85, 999), (86, 999), (87, 999), (88, 999)] I I3 := hF.trans hf3 rfl rfl
  have lvq : ∀ j : Nat, j < 60 → (I3 lr j).toInt = LP1 D j := fun j hj => by rw [k3_0 j hj, show x1_.toInt = 60 by omega, show x2_.toInt = -1 by omega, Gm_p (by have h9 := hJ.2.2.2.2.1; omega)]; rfl
  refine r_aload_n hC dX10_runsAsTold_7 0 rfl ?_
  refine r_iload_n hC dX10_runsAsTold_8 1 rfl ?_
  refine r_iconst hC (v := (1)) dX10_runsAsTold_9 (by decide) (by decide) (fun x4_ e4 t4 => ?_)
  have hv5 : I3 hm 7 = S0 := (Eq.trans (hf3.get khm rfl) eS0.symm)
  refine r_callV hC (As := [.int x1, .int x4_]) (rest := []) (ci := 10) (f_X10_runs g (xL X) K len I3 J R hs3 a0 ka0 x1 x4_ hm hbm khm (by rw [hv5]; omega) sr hsr ksr lsr ir hir kir lir wr hwr kwr lwr lr hlr klr llr (LP1 D) (fun j hj => ⟨lvq j hj, LP1_b hJ j⟩) (LP1_b hJ) D hJ hR6 (rwm.mv hcx qM_big hF3 rfl) (by rw [hF3.get khm rfl]; exact hd1) (by rw [hF3.get khm rfl]; exact hd5) (by rw [hF3.get khm rfl]; exact hd7) rr hrr krr lrr (fun j hj => ⟨by rw [hF3.get krr rfl]; exact mc.hrw (r := 5) (by decide) (by decide) hrr (by show (j : Int) < 60; omega) (fun h9 => absurd h9 (by decide)), hJ.rn hR6 j⟩) (by omega) (by omega)) mT_6_131 mT_1_10 mT_6_128 mT_6_130 mP_74 okX10_runs ⟨by decide, by decide⟩ rfl (by show kO (K a0) = _; rw [ka0]; rfl) rfl rfl (Nat.le_of_ble_eq_true rfl) ⟨by decide, by decide⟩ dX10_runsAsTold_10 (aV1 (F := fun st M => P g X 2 13 [(0, .ref a0), (1, .int x1)] st _ _ M) (M := (K, len, I3, J, R)) fun I6 h6 => ?_)
  obtain ⟨hs6, hf6, k6_0, k6_1⟩ := h6
  show P g X 2 13 [(0, .ref a0), (1, .int x1)] [] _ _ (K, len, I6, J, R)
  have hF6 : Fr K [(11, 19), (85, 999), (86, 999), (87, 999), (88, 999)] I I6 := hF3.trans hf6 rfl rfl
  have j0 := k6_0
  have j1 := k6_1
  rw [show x4_.toInt = 1 by omega] at j0 j1
  exact r_vret hC hQ hlk hr (by decide) (by decide) dX10_runsAsTold_13 ⟨_, rfl, rfl, ⟨hs6, hF6, (by exact ⟨fun j hj => by rw [hf6.get klr rfl]; exact lvq j hj, j0, j1⟩)⟩⟩
