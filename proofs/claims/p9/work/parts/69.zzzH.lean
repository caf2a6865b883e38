def MC (D : DD) (E : Nat → Nat → Int) (m hm : Nat) (I : Nat → Nat → Int32) (R : Nat → Nat → Option Nat) : Prop := (DJ D ∧ D 0 6 ≤ 6 ∧ 1 ≤ D 0 7) ∧ RW (CM hm R) (cntN D) D I ∧ scM D hm I ∧ RdM E m I R ∧ ∀ j : Nat, (j : Int) < (I m 20).toInt → EBj D E j
def MO (D : DD) (s : Nat) (L : Nat → Int) (wet : Int) (m lr sr ir wr : Nat) (I : Nat → Nat → Int32) : Prop := (∀ j : Nat, j < 60 → (I lr j).toInt = L j) ∧ CRj D s (Ad D s L wet) sr ir wr 60 0 I ∧ (I m 19).toInt = GV D s (Ad D s L wet) 60
def qN (y : Nat) : Bool := qM y || y == 10 || y == 89 || y == 90 || y == 91 || y == 92
def okN (l : List (Nat × Nat)) : Bool := okQ qN l && !(inS l 11 20)
def qO (y : Nat) : Bool := Nat.ble 85 y && Nat.ble y 88
def okOm (l : List (Nat × Nat)) : Bool := okQ qO l && !(inS l 11 19)
theorem qN_big : ∀ x, 1000 ≤ x → qN x = true → qN 1000 = true := fun _ _ _ => rfl
theorem qO_big : ∀ x, 1000 ≤ x → qO x = true → qO 1000 = true := by
  intro x hx h; simp only [qO, Bool.and_eq_true, Nat.ble_eq] at h; omega
section MKEEP
variable {D : DD} {E : Nat → Nat → Int} {m hm s lr sr ir wr : Nat} {K len : Nat → Nat} {I I0 I1 : Nat → Nat → Int32} {R : Nat → Nat → Option Nat} {L : Nat → Int} {wet : Int} {l : List (Nat × Nat)}
theorem rkm (hs : Sf K len I0 R) (km : K m = 11) {r a : Nat} (hr : r < 4) (ha : R m (r + 21) = some a) : K a = 89 ∨ K a = 90 ∨ K a = 91 ∨ K a = 92 := by
  have : r = 0 ∨ r = 1 ∨ r = 2 ∨ r = 3 := by omega
  rcases this with rfl | rfl | rfl | rfl
  · exact Or.inl (refK hs (n := 24) km (by decide) ha)
  · exact Or.inr (Or.inl (refK hs (n := 24) km (by decide) ha))
  · exact Or.inr (Or.inr (Or.inl (refK hs (n := 24) km (by decide) ha)))
  · exact Or.inr (Or.inr (Or.inr (refK hs (n := 24) km (by decide) ha)))
theorem MC.mv (hc : MC D E m hm I R) (hs : Sf K len I0 R) (km : K m = 11) (khm : K hm = 10) (hF : Fr K l I I1) (ho : okN l = true) : MC D E m hm I1 R := by
  simp only [okN, Bool.and_eq_true, Bool.not_eq_true'] at ho
  have he : ∀ a k, qN (K a) = true → I1 a k = I a k := fun a k z => hF.get rfl (okQ_in ho.1 qN_big z k)
  have h20 : I1 m 20 = I m 20 := hF.get km ho.2
  have eh : ∀ k, I1 hm k = I hm k := fun k => he hm k (by rw [khm]; rfl)
  obtain ⟨c1, c2, c3, c4, c5⟩ := hc
  refine ⟨c1, c2.eq (fun r j a k hC => he a k ?_), ?_, fun r j a hr ha hj => ?_, fun j hj => c5 j (by rw [h20] at hj; exact hj)⟩
  · have := (CM_x hs khm).1 r j a k hC; simp only [qN, this, Bool.true_or]
  · unfold scM; simp only [eh]; exact c3
  · rw [h20] at hj
    rw [he a j (by rcases rkm hs km hr ha with z | z | z | z <;> rw [z] <;> rfl)]; exact c4 r j a hr ha hj
theorem MO.mv (h : MO D s L wet m lr sr ir wr I) (km : K m = 11) (klr : K lr = 85) (ksr : K sr = 86) (kir : K ir = 87) (kwr : K wr = 88) (hF : Fr K l I I1) (ho : okOm l = true) : MO D s L wet m lr sr ir wr I1 := by
  simp only [okOm, Bool.and_eq_true, Bool.not_eq_true'] at ho
  have he : ∀ a k, qO (K a) = true → I1 a k = I a k := fun a k z => hF.get rfl (okQ_in ho.1 qO_big z k)
  refine ⟨fun j hj => by rw [he lr j (by rw [klr]; rfl)]; exact h.1 j hj, h.2.1.eq (fun b k z => ?_), by rw [hF.get km ho.2]; exact h.2.2⟩
  rcases z with rfl | rfl | rfl
  · exact he _ k (by rw [ksr]; rfl)
  · exact he _ k (by rw [kir]; rfl)
  · exact he _ k (by rw [kwr]; rfl)
theorem MO.spd (h : MO D s L wet m lr sr ir wr I) {d p : Nat} (hd : d < 60) (hp : (p : Int) < D 0 5) : (I sr (60 * p + d)).toInt = SV D s (Ad D s L wet) d p := (h.2.1 d p (Or.inl hd) hp).1
theorem MO.inc (h : MO D s L wet m lr sr ir wr I) {d p : Nat} (hd : d < 60) (hp : (p : Int) < D 0 5) : (I ir (60 * p + d)).toInt = NV D s (Ad D s L wet) d p := (h.2.1 d p (Or.inl hd) hp).2.1
theorem MO.wrn (h : MO D s L wet m lr sr ir wr I) {d p : Nat} (hd : d < 60) (hp : (p : Int) < D 0 5) : (I wr (60 * p + d)).toInt = WV D s (Ad D s L wet) d p := (h.2.1 d p (Or.inl hd) hp).2.2
theorem MC.adb (hc : MC D E m hm I R) (hs : (s : Int) < D 0 7) {w2 : Int} : ∀ d, 0 ≤ Ad D s (LP1 D) w2 d ∧ Ad D s (LP1 D) w2 d ≤ 300000 := Ad_b hc.1.1 hc.1.2.1 hs (LP1_b hc.1.1)
theorem MC.svb (hc : MC D E m hm I R) (hs : (s : Int) < D 0 7) {w2 : Int} (d p : Nat) : 0 ≤ SV D s (Ad D s (LP1 D) w2) d p ∧ SV D s (Ad D s (LP1 D) w2) d p ≤ 30100 := SV_b hc.1.1 (hc.adb hs) d p
theorem MC.nvb (hc : MC D E m hm I R) (hs : (s : Int) < D 0 7) {w2 : Int} (d p : Nat) (hd : d < 60) : 0 ≤ NV D s (Ad D s (LP1 D) w2) d p ∧ NV D s (Ad D s (LP1 D) w2) d p ≤ 1806000 := by
  have h := (Cs_b (s := s) hc.1.1 (hc.adb hs (w2 := w2)) (d + 1) p).2.1
  refine ⟨h.1, Int.le_trans h.2 ?_⟩
  have : ((d + 1 : Nat) : Int) = d + 1 := by omega
  rw [this]; omega
theorem MC.hrw (hc : MC D E m hm I R) {r j a : Nat} (h1 : 1 ≤ r) (h2 : r ≤ 14) (ha : R hm (r + 10) = some a) (hj : (j : Int) < cntN D r) (h9 : rel9 D r j) : (I a j).toInt = D r j := hc.2.1 r j a j (cM h1 h2 ha) hj h9
end MKEEP
set_option maxHeartbeats 4000000 in
set_option maxRecDepth 100000 in
theorem f_X10_runsAsTold (g : GG) (l : Launch) (K len : Nat → Nat) (I : Nat → Nat → Int32) (J : Nat → Nat → Int64) (R : Nat → Nat → Option Nat) (hs : Sf K len I R) (a0 : Nat) (ka0 : K a0 = 11) (x1 : Int32) (hm : Nat) (hbm : R a0 3 = some hm) (khm : K hm = 10) (ps1 : x1.toInt < (I hm 7).toInt) (lr : Nat) (hlr : R a0 15 = some lr) (klr : K lr = 85) (llr : len lr = 60) (sr : Nat) (hsr : R a0 16 = some sr) (ksr : K sr = 86) (lsr : len sr = 300) (ir : Nat) (hir : R a0 17 = some ir) (kir : K ir = 87) (lir : len ir = 300) (wr : Nat) (hwr : R a0 18 = some wr) (kwr : K wr = 88) (lwr : len wr = 300) (D : DD) (E : Nat → Nat → Int) (mc : MC D E a0 hm I R) (p0 : 0 ≤ x1.toInt) (p1 : x1.toInt ≤ 5) : Ct g l yX10_runsAsTold cX10_runsAsTold 2 (Option.none : Option Jvm.ClassFile.FieldType) rmX10_runsAsTold [.ref a0, .int x1] (K, len, I, J, R) (pV1 (K, len, I, J, R) (fun I' => Sf K len I' R ∧ Fr K [(11, 19), (85, 999), (86, 999), (87, 999), (88, 999)] I I' ∧ (MO D x1.toInt.toNat (LP1 D) 1 a0 lr sr ir wr I'))) := by
  refine Ct_intro (by decide +kernel) (Nat.le_of_ble_eq_true rfl) (fun X hC hL hKK hNm hr hlk hQ => ?_)
  subst hL
  have hC : Cx g X cX10_runsAsTold "HillTapModel" 2 rmX10_runsAsTold := hC
  show P g X 2 0 [(0, .ref a0), (1, .int x1)] [] 0 0 (K, len, I, J, R)
  have hF : Fr K [(11, 19), (85, 999), (86, 999), (87, 999), (88, 999)] I I := Fr.refl
  obtain ⟨⟨hJ, hR6, hD7⟩, rwm, ⟨hd1, hd2, hd3, hd4, hd5, hd7, hd8, hd9⟩, -⟩ := id mc
  have hcx := CM_x hs khm
  have b5 := hs.rng khm (k := 3) rfl (x := I hm 3) rfl
  have b7 := hs.rng khm (k := 7) rfl (x := I hm 7) rfl
  have b8 := hs.rng khm (k := 8) rfl (x := I hm 8) rfl
  have b20 := hs.rng ka0 (k := 20) rfl (x := I a0 20) rfl
  obtain ⟨rr, hrr, krr, lrr⟩ := hs.row khm 15 74 60 (by decide) (by decide)
  have b_x1 := ti_rng x1
  obtain ⟨S0, eS0⟩ : ∃ z : Int32, z = I hm 7 := ⟨_, rfl⟩
  have fS0 : S0.toInt = (I hm 7).toInt := by rw [eS0]
  have rS0 := hs.rng khm rfl eS0
  refine r_aload_n hC dX10_runsAsTold_0 0 rfl ?_
  refine r_bipush hC (v := (60)) dX10_runsAsTold_1 (by decide) (by decide) (fun x1_ e1 t1 => ?_)
  refine r_iconst hC (v := (-1)) dX10_runsAsTold_3 (by decide) (by decide) (fun x2_ e2 t2 => ?_)
  refine r_callV hC (As := [.int x1_, .int x2_]) (rest := []) (ci := 10) (f_X10_fills g (xL X) K len I J R hs a0 ka0 x1_ x2_ hm hbm khm D hJ (rwm.mv hcx qM_big hF rfl) (by rw [hF.get khm rfl]; exact hd1) (by rw [hF.get khm rfl]; exact hd2) (by rw [hF.get khm rfl]; exact hd3) (by rw [hF.get khm rfl]; exact hd4) lr hlr klr llr (by omega)) mT_6_99 mT_1_10 mT_6_96 mT_6_98 mP_69 okX10_fills ⟨by decide, by decide⟩ rfl (by show kO (K a0) = _; rw [ka0]; rfl) rfl rfl (Nat.le_of_ble_eq_true rfl) ⟨by decide, by decide⟩ dX10_runsAsTold_4 (aV1 (F := fun st M => P g X 2 7 [(0, .ref a0), (1, .int x1)] st _ _ M) (M := (K, len, I, J, R)) fun I3 h3 => ?_)
  obtain ⟨hs3, hf3, k3_0⟩ := h3
  show P g X 2 7 [(0, .ref a0), (1, .int x1)] [] _ _ (K, len, I3, J, R)
  have hF3 : Fr K [(11, 19), (85, 999), (86, 999), (87, 999), (88, 999)] I I3 := hF.trans hf3 rfl rfl
  have lvq : ∀ j : Nat, j < 60 → (I3 lr j).toInt = LP1 D j := fun j hj => by rw [k3_0 j hj, show x1_.toInt = 60 by omega, show x2_.toInt = -1 by omega, Gm_p (by have h9 := hJ.2.2.2.2.1; omega)]; rfl
  refine r_aload_n hC dX10_runsAsTold_7 0 rfl ?_
  refine r_iload_n hC dX10_runsAsTold_8 1 rfl ?_
  refine r_iconst hC (v := (1)) dX10_runsAsTold_9 (by decide) (by decide) (fun x4_ e4 t4 => ?_)
  have hv5 : I3 hm 7 = S0 := (Eq.trans (hf3.get khm rfl) eS0.symm)
  refine r_callV hC (As := [.int x1, .int x4_]) (rest := []) (ci := 10) (f_X10_runs g (xL X) K len I3 J R hs3 a0 ka0 x1 x4_ hm hbm khm (by rw [hv5]; omega) sr hsr ksr lsr ir hir kir lir wr hwr kwr lwr lr hlr klr llr (LP1 D) (fun j hj => ⟨lvq j hj, LP1_b hJ j⟩) (LP1_b hJ) D hJ hR6 (rwm.mv hcx qM_big hF3 rfl) (by rw [hF3.get khm rfl]; exact hd1) (by rw [hF3.get khm rfl]; exact hd5) (by rw [hF3.get khm rfl]; exact hd7) rr hrr krr lrr (fun j hj => ⟨by rw [hF3.get krr rfl]; exact mc.hrw (r := 5) (by decide) (by decide) hrr (by show (j : Int) < 60; omega) (fun h9 => absurd h9 (by decide)), hJ.rn hR6 j⟩) (by omega) (by omega)) mT_6_131 mT_1_10 mT_6_128 mT_6_130 mP_74 okX10_runs ⟨by decide, by decide⟩ rfl (by show kO (K a0) = _; rw [ka0]; rfl) rfl rfl (Nat.le_of_ble_eq_true rfl) ⟨by decide, by decide⟩ dX10_runsAsTold_10 (aV1 (F := fun st M => P g X 2 13 [(0, .ref a0), (1, .int x1)] st _ _ M) (M := (K, len, I3, J, R)) fun I6 h6 => ?_)
  obtain ⟨hs6, hf6, k6_0, k6_1⟩ := h6
  show P g X 2 13 [(0, .ref a0), (1, .int x1)] [] _ _ (K, len, I6, J, R)
  have hF6 : Fr K [(11, 19), (85, 999), (86, 999), (87, 999), (88, 999)] I I6 := hF3.trans hf6 rfl rfl
  have j0 := k6_0
  have j1 := k6_1
  rw [show x4_.toInt = 1 by omega] at j0 j1
  exact r_vret hC hQ hlk hr (by decide) (by decide) dX10_runsAsTold_13 ⟨_, rfl, rfl, ⟨hs6, hF6, (by exact ⟨fun j hj => by rw [hf6.get klr rfl]; exact lvq j hj, j0, j1⟩)⟩⟩
set_option maxHeartbeats 4000000 in
set_option maxRecDepth 100000 in
theorem f_X10_peg (g : GG) (l : Launch) (K len : Nat → Nat) (I : Nat → Nat → Int32) (J : Nat → Nat → Int64) (R : Nat → Nat → Option Nat) (hs : Sf K len I R) (a0 : Nat) (ka0 : K a0 = 11) (x1 : Int32) (x2 : Int32) (x3 : Int32) (x4 : Int32) (D : DD) (E : Nat → Nat → Int) (hmx : ∀ hm, R a0 3 = some hm → MC D E a0 hm I R) : Ct g l yX10_peg cX10_peg 6 (Option.some Jvm.ClassFile.FieldType.int) rmX10_peg [.ref a0, .int x1, .int x2, .int x3, .int x4] (K, len, I, J, R) (pI1 (K, len, I, J, R) (fun r I' => Sf K len I' R ∧ Fr K [(11, 0), (11, 1), (11, 2), (11, 19), (85, 999), (86, 999), (87, 999), (88, 999)] I I' ∧ ((R a0 3 = none ∧ r.toInt = -1) ∨ (∃ hm, R a0 3 = some hm ∧ ((((0 ≤ x1.toInt ∧ x1.toInt < D 0 7) ∧ (0 ≤ x2.toInt ∧ x2.toInt < D 0 5) ∧ 0 ≤ x3.toInt ∧ x3.toInt ≤ 59) ∧ 0 ≤ x4.toInt ∧ x4.toInt ≤ 2) ∧ r.toInt = (if x4.toInt = 0 then NV D x1.toInt.toNat (Ad D x1.toInt.toNat (LP1 D) 1) x3.toInt.toNat x2.toInt.toNat else if x4.toInt = 1 then SV D x1.toInt.toNat (Ad D x1.toInt.toNat (LP1 D) 1) x3.toInt.toNat x2.toInt.toNat else WV D x1.toInt.toNat (Ad D x1.toInt.toNat (LP1 D) 1) x3.toInt.toNat x2.toInt.toNat) ∨ ¬ (((0 ≤ x1.toInt ∧ x1.toInt < D 0 7) ∧ (0 ≤ x2.toInt ∧ x2.toInt < D 0 5) ∧ 0 ≤ x3.toInt ∧ x3.toInt ≤ 59) ∧ 0 ≤ x4.toInt ∧ x4.toInt ≤ 2) ∧ r.toInt = -1))) ∧ ((I' a0 2).toInt = -1))) := by
  refine Ct_intro (by decide +kernel) (Nat.le_of_ble_eq_true rfl) (fun X hC hL hKK hNm hr hlk hQ => ?_)
  subst hL
  have hC : Cx g X cX10_peg "HillTapModel" 6 rmX10_peg := hC
  show P g X 6 0 [(0, .ref a0), (1, .int x1), (2, .int x2), (3, .int x3), (4, .int x4)] [] 0 0 (K, len, I, J, R)
  have hF : Fr K [(11, 0), (11, 1), (11, 2), (11, 19), (85, 999), (86, 999), (87, 999), (88, 999)] I I := Fr.refl
  obtain ⟨lr, hlr, klr, llr⟩ := hs.row ka0 15 85 60 (by decide) (by decide)
  obtain ⟨sr, hsr, ksr, lsr⟩ := hs.row ka0 16 86 300 (by decide) (by decide)
  obtain ⟨ir, hir, kir, lir⟩ := hs.row ka0 17 87 300 (by decide) (by decide)
  obtain ⟨wr, hwr, kwr, lwr⟩ := hs.row ka0 18 88 300 (by decide) (by decide)
  have b_x1 := ti_rng x1
  have b_x2 := ti_rng x2
  have b_x3 := ti_rng x3
  have b_x4 := ti_rng x4
  rcases hs.2.1.2.2.1 a0 ka0 with hz | ⟨hm, hbm, khm⟩
  · refine r_aload_n hC dX10_peg_0 0 rfl ?_
    refine r_iconst hC (v := (0)) dX10_peg_1 (by decide) (by decide) (fun x1_ e1 t1 => ?_)
    refine r_puti hC 0 (ci := 10) rfl u10_in tyX10_ok nmX10 (by decide) mT_4_235 rfl rfl rfl dX10_peg_2 ka0 rfl rfl (fun I2 eI2 => ?_)
    have hs2 := hs.put0 eI2 ka0 rfl rfl rfl (by decide)
    have hF2 := hF.put eI2 ka0 rfl
    refine r_aload_n hC dX10_peg_5 0 rfl ?_
    refine r_iload_n hC dX10_peg_6 1 rfl ?_
    refine r_callV hC (As := [.int x1]) (rest := []) (ci := 10) (f_X10_isStory g (xL X) K len I2 J R hs2 a0 ka0 x1) mT_6_119 mT_1_10 mT_6_116 mT_6_118 mP_71 okX10_isStory ⟨by decide, by decide⟩ rfl (by show kO (K a0) = _; rw [ka0]; rfl) rfl rfl (Nat.le_of_ble_eq_true rfl) ⟨by decide, by decide⟩ dX10_peg_7 (aI0 (F := fun st M => P g X 6 10 [(0, .ref a0), (1, .int x1), (2, .int x2), (3, .int x3), (4, .int x4)] st _ _ M) (M := (K, len, I2, J, R)) fun x3_ h3 => ?_)
    have k3_0 := h3
    clear h3
    show P g X 6 10 [(0, .ref a0), (1, .int x1), (2, .int x2), (3, .int x3), (4, .int x4)] [.int x3_] _ _ (K, len, I2, J, R)
    have kq3 : x3_.toInt = 0 := by rcases k3_0 with ⟨z, y⟩ | ⟨hm9, z, y⟩; exact y; rw [hz] at z; cases z
    clear k3_0
    refine r_if_eq hC (tgt := 39) dX10_peg_10 (by decide) (fun c4 => ?_) (fun c4 => ?_)
    rotate_left
    · exfalso; omega
    refine r_aload_n hC dX10_peg_39 0 rfl ?_
    refine r_iconst hC (v := (1)) dX10_peg_40 (by decide) (by decide) (fun x5_ e5 t5 => ?_)
    refine r_callV hC (As := [.int x5_]) (rest := []) (ci := 10) (c_X10_refused g (xL X) K len I2 J R hs2 a0 ka0 x5_) mT_5_85 mT_1_10 mT_5_82 mT_5_84 mP_48 okX10_refused ⟨by decide, by decide⟩ rfl (by show kO (K a0) = _; rw [ka0]; rfl) rfl rfl (Nat.le_of_ble_eq_true rfl) ⟨by decide, by decide⟩ dX10_peg_41 (aI1 (F := fun st M => P g X 6 44 [(0, .ref a0), (1, .int x1), (2, .int x2), (3, .int x3), (4, .int x4)] st _ _ M) (M := (K, len, I2, J, R)) fun x6_ I6 h6 => ?_)
    obtain ⟨hs6, hf6, k6_0, k6_1, k6_2⟩ := h6
    show P g X 6 44 [(0, .ref a0), (1, .int x1), (2, .int x2), (3, .int x3), (4, .int x4)] [.int x6_] _ _ (K, len, I6, J, R)
    have hF6 : Fr K [(11, 0), (11, 1), (11, 2), (11, 19), (85, 999), (86, 999), (87, 999), (88, 999)] I I6 := hF2.trans hf6 rfl rfl
    exact r_iret hC hQ hlk hr rfl (by decide) (by decide) dX10_peg_44 ⟨_, _, rfl, rfl, ⟨hs6, hF6, (by first | exact Or.inl ⟨hz, by omega⟩ | exact Or.inr ⟨hm, hbm, Or.inr ⟨by omega, by omega⟩⟩ | exact Or.inr ⟨hm, hbm, Or.inl ⟨by omega, (congrArg Int32.toInt k6_0).trans (by first | (rw [if_pos (by omega)]; exact NOlq) | (rw [if_neg (by omega), if_pos (by omega)]; exact NOlq) | (rw [if_neg (by omega), if_neg (by omega)]; exact NOlq))⟩⟩), (by omega)⟩⟩
  · obtain ⟨S0, eS0⟩ : ∃ z : Int32, z = I hm 7 := ⟨_, rfl⟩
    have fS0 : S0.toInt = (I hm 7).toInt := by rw [eS0]
    have rS0 := hs.rng khm rfl eS0
    have mc := hmx hm hbm
    obtain ⟨⟨hJ, hR6, hD7⟩, rwm, ⟨hd1, hd2, hd3, hd4, hd5, hd7, hd8, hd9⟩, -⟩ := id mc
    have hcx := CM_x hs khm
    have b5 := hs.rng khm (k := 3) rfl (x := I hm 3) rfl
    have b7 := hs.rng khm (k := 7) rfl (x := I hm 7) rfl
    have b8 := hs.rng khm (k := 8) rfl (x := I hm 8) rfl
    have b20 := hs.rng ka0 (k := 20) rfl (x := I a0 20) rfl
    refine r_aload_n hC dX10_peg_0 0 rfl ?_
    refine r_iconst hC (v := (0)) dX10_peg_1 (by decide) (by decide) (fun x7_ e7 t7 => ?_)
    refine r_puti hC 0 (ci := 10) rfl u10_in tyX10_ok nmX10 (by decide) mT_4_235 rfl rfl rfl dX10_peg_2 ka0 rfl rfl (fun I8 eI8 => ?_)
    have hs8 := hs.put0 eI8 ka0 rfl rfl rfl (by decide)
    have hF8 := hF.put eI8 ka0 rfl
    refine r_aload_n hC dX10_peg_5 0 rfl ?_
    refine r_iload_n hC dX10_peg_6 1 rfl ?_
    refine r_callV hC (As := [.int x1]) (rest := []) (ci := 10) (f_X10_isStory g (xL X) K len I8 J R hs8 a0 ka0 x1) mT_6_119 mT_1_10 mT_6_116 mT_6_118 mP_71 okX10_isStory ⟨by decide, by decide⟩ rfl (by show kO (K a0) = _; rw [ka0]; rfl) rfl rfl (Nat.le_of_ble_eq_true rfl) ⟨by decide, by decide⟩ dX10_peg_7 (aI0 (F := fun st M => P g X 6 10 [(0, .ref a0), (1, .int x1), (2, .int x2), (3, .int x3), (4, .int x4)] st _ _ M) (M := (K, len, I8, J, R)) fun x9_ h9 => ?_)
    have k9_0 := h9
    clear h9
    show P g X 6 10 [(0, .ref a0), (1, .int x1), (2, .int x2), (3, .int x3), (4, .int x4)] [.int x9_] _ _ (K, len, I8, J, R)
    have kq9 : x9_.toInt = 1 ∧ (0 ≤ x1.toInt ∧ x1.toInt < D 0 7) ∨ x9_.toInt = 0 ∧ ¬ (0 ≤ x1.toInt ∧ x1.toInt < D 0 7) := by rcases k9_0 with ⟨z, -⟩ | ⟨hm9, z, y⟩ <;> rw [hbm] at z <;> cases z; rw [show (I8 hm 7).toInt = _ from (mc.mv hs ka0 khm hF8 rfl).2.2.1.2.2.2.2.2.1] at y; exact y
    clear k9_0
    refine r_if_eq hC (tgt := 39) dX10_peg_10 (by decide) (fun c10 => ?_) (fun c10 => ?_)
    · refine r_aload_n hC dX10_peg_39 0 rfl ?_
      refine r_iconst hC (v := (1)) dX10_peg_40 (by decide) (by decide) (fun x11_ e11 t11 => ?_)
      refine r_callV hC (As := [.int x11_]) (rest := []) (ci := 10) (c_X10_refused g (xL X) K len I8 J R hs8 a0 ka0 x11_) mT_5_85 mT_1_10 mT_5_82 mT_5_84 mP_48 okX10_refused ⟨by decide, by decide⟩ rfl (by show kO (K a0) = _; rw [ka0]; rfl) rfl rfl (Nat.le_of_ble_eq_true rfl) ⟨by decide, by decide⟩ dX10_peg_41 (aI1 (F := fun st M => P g X 6 44 [(0, .ref a0), (1, .int x1), (2, .int x2), (3, .int x3), (4, .int x4)] st _ _ M) (M := (K, len, I8, J, R)) fun x12_ I12 h12 => ?_)
      obtain ⟨hs12, hf12, k12_0, k12_1, k12_2⟩ := h12
      show P g X 6 44 [(0, .ref a0), (1, .int x1), (2, .int x2), (3, .int x3), (4, .int x4)] [.int x12_] _ _ (K, len, I12, J, R)
      have hF12 : Fr K [(11, 0), (11, 1), (11, 2), (11, 19), (85, 999), (86, 999), (87, 999), (88, 999)] I I12 := hF8.trans hf12 rfl rfl
      exact r_iret hC hQ hlk hr rfl (by decide) (by decide) dX10_peg_44 ⟨_, _, rfl, rfl, ⟨hs12, hF12, (by first | exact Or.inl ⟨hz, by omega⟩ | exact Or.inr ⟨hm, hbm, Or.inr ⟨by omega, by omega⟩⟩ | exact Or.inr ⟨hm, hbm, Or.inl ⟨by omega, (congrArg Int32.toInt k12_0).trans (by first | (rw [if_pos (by omega)]; exact NOlq) | (rw [if_neg (by omega), if_pos (by omega)]; exact NOlq) | (rw [if_neg (by omega), if_neg (by omega)]; exact NOlq))⟩⟩), (by omega)⟩⟩
    · refine r_aload_n hC dX10_peg_13 0 rfl ?_
      refine r_iload_n hC dX10_peg_14 2 rfl ?_
      refine r_callV hC (As := [.int x2]) (rest := []) (ci := 10) (f_X10_isPeg g (xL X) K len I8 J R hs8 a0 ka0 x2) mT_6_123 mT_1_10 mT_6_120 mT_6_122 mP_72 okX10_isPeg ⟨by decide, by decide⟩ rfl (by show kO (K a0) = _; rw [ka0]; rfl) rfl rfl (Nat.le_of_ble_eq_true rfl) ⟨by decide, by decide⟩ dX10_peg_15 (aI0 (F := fun st M => P g X 6 18 [(0, .ref a0), (1, .int x1), (2, .int x2), (3, .int x3), (4, .int x4)] st _ _ M) (M := (K, len, I8, J, R)) fun x13_ h13 => ?_)
      have k13_0 := h13
      clear h13
      show P g X 6 18 [(0, .ref a0), (1, .int x1), (2, .int x2), (3, .int x3), (4, .int x4)] [.int x13_] _ _ (K, len, I8, J, R)
      have kq13 : x13_.toInt = 1 ∧ (0 ≤ x2.toInt ∧ x2.toInt < D 0 5) ∨ x13_.toInt = 0 ∧ ¬ (0 ≤ x2.toInt ∧ x2.toInt < D 0 5) := by rcases k13_0 with ⟨z, -⟩ | ⟨hm9, z, y⟩ <;> rw [hbm] at z <;> cases z; rw [show (I8 hm 3).toInt = _ from (mc.mv hs ka0 khm hF8 rfl).2.2.1.2.2.2.2.1] at y; exact y
      clear k13_0
      refine r_if_eq hC (tgt := 39) dX10_peg_18 (by decide) (fun c14 => ?_) (fun c14 => ?_)
      · refine r_aload_n hC dX10_peg_39 0 rfl ?_
        refine r_iconst hC (v := (1)) dX10_peg_40 (by decide) (by decide) (fun x15_ e15 t15 => ?_)
        refine r_callV hC (As := [.int x15_]) (rest := []) (ci := 10) (c_X10_refused g (xL X) K len I8 J R hs8 a0 ka0 x15_) mT_5_85 mT_1_10 mT_5_82 mT_5_84 mP_48 okX10_refused ⟨by decide, by decide⟩ rfl (by show kO (K a0) = _; rw [ka0]; rfl) rfl rfl (Nat.le_of_ble_eq_true rfl) ⟨by decide, by decide⟩ dX10_peg_41 (aI1 (F := fun st M => P g X 6 44 [(0, .ref a0), (1, .int x1), (2, .int x2), (3, .int x3), (4, .int x4)] st _ _ M) (M := (K, len, I8, J, R)) fun x16_ I16 h16 => ?_)
        obtain ⟨hs16, hf16, k16_0, k16_1, k16_2⟩ := h16
        show P g X 6 44 [(0, .ref a0), (1, .int x1), (2, .int x2), (3, .int x3), (4, .int x4)] [.int x16_] _ _ (K, len, I16, J, R)
        have hF16 : Fr K [(11, 0), (11, 1), (11, 2), (11, 19), (85, 999), (86, 999), (87, 999), (88, 999)] I I16 := hF8.trans hf16 rfl rfl
        exact r_iret hC hQ hlk hr rfl (by decide) (by decide) dX10_peg_44 ⟨_, _, rfl, rfl, ⟨hs16, hF16, (by first | exact Or.inl ⟨hz, by omega⟩ | exact Or.inr ⟨hm, hbm, Or.inr ⟨by omega, by omega⟩⟩ | exact Or.inr ⟨hm, hbm, Or.inl ⟨by omega, (congrArg Int32.toInt k16_0).trans (by first | (rw [if_pos (by omega)]; exact NOlq) | (rw [if_neg (by omega), if_pos (by omega)]; exact NOlq) | (rw [if_neg (by omega), if_neg (by omega)]; exact NOlq))⟩⟩), (by omega)⟩⟩
      · refine r_aload_n hC dX10_peg_21 0 rfl ?_
        refine r_iload_n hC dX10_peg_22 3 rfl ?_
        refine r_callV hC (As := [.int x3]) (rest := []) (ci := 10) (f_X10_isDay g (xL X) K len I8 J R hs8 a0 ka0 x3) mT_6_95 mT_1_10 mT_6_92 mT_6_94 mP_68 okX10_isDay ⟨by decide, by decide⟩ rfl (by show kO (K a0) = _; rw [ka0]; rfl) rfl rfl (Nat.le_of_ble_eq_true rfl) ⟨by decide, by decide⟩ dX10_peg_23 (aI0 (F := fun st M => P g X 6 26 [(0, .ref a0), (1, .int x1), (2, .int x2), (3, .int x3), (4, .int x4)] st _ _ M) (M := (K, len, I8, J, R)) fun x17_ h17 => ?_)
        have k17_0 := h17
        clear h17
        show P g X 6 26 [(0, .ref a0), (1, .int x1), (2, .int x2), (3, .int x3), (4, .int x4)] [.int x17_] _ _ (K, len, I8, J, R)
        have kq17 : x17_.toInt = 1 ∧ (0 ≤ x3.toInt ∧ x3.toInt ≤ 59) ∨ x17_.toInt = 0 ∧ ¬ (0 ≤ x3.toInt ∧ x3.toInt ≤ 59) := by rcases k17_0 with ⟨z, -⟩ | ⟨hm9, z, y⟩ <;> rw [hbm] at z <;> cases z; exact y
        clear k17_0
        refine r_if_eq hC (tgt := 39) dX10_peg_26 (by decide) (fun c18 => ?_) (fun c18 => ?_)
        · refine r_aload_n hC dX10_peg_39 0 rfl ?_
          refine r_iconst hC (v := (1)) dX10_peg_40 (by decide) (by decide) (fun x19_ e19 t19 => ?_)
          refine r_callV hC (As := [.int x19_]) (rest := []) (ci := 10) (c_X10_refused g (xL X) K len I8 J R hs8 a0 ka0 x19_) mT_5_85 mT_1_10 mT_5_82 mT_5_84 mP_48 okX10_refused ⟨by decide, by decide⟩ rfl (by show kO (K a0) = _; rw [ka0]; rfl) rfl rfl (Nat.le_of_ble_eq_true rfl) ⟨by decide, by decide⟩ dX10_peg_41 (aI1 (F := fun st M => P g X 6 44 [(0, .ref a0), (1, .int x1), (2, .int x2), (3, .int x3), (4, .int x4)] st _ _ M) (M := (K, len, I8, J, R)) fun x20_ I20 h20 => ?_)
          obtain ⟨hs20, hf20, k20_0, k20_1, k20_2⟩ := h20
          show P g X 6 44 [(0, .ref a0), (1, .int x1), (2, .int x2), (3, .int x3), (4, .int x4)] [.int x20_] _ _ (K, len, I20, J, R)
          have hF20 : Fr K [(11, 0), (11, 1), (11, 2), (11, 19), (85, 999), (86, 999), (87, 999), (88, 999)] I I20 := hF8.trans hf20 rfl rfl
          exact r_iret hC hQ hlk hr rfl (by decide) (by decide) dX10_peg_44 ⟨_, _, rfl, rfl, ⟨hs20, hF20, (by first | exact Or.inl ⟨hz, by omega⟩ | exact Or.inr ⟨hm, hbm, Or.inr ⟨by omega, by omega⟩⟩ | exact Or.inr ⟨hm, hbm, Or.inl ⟨by omega, (congrArg Int32.toInt k20_0).trans (by first | (rw [if_pos (by omega)]; exact NOlq) | (rw [if_neg (by omega), if_pos (by omega)]; exact NOlq) | (rw [if_neg (by omega), if_neg (by omega)]; exact NOlq))⟩⟩), (by omega)⟩⟩
        · refine r_iload hC dX10_peg_29 4 rfl ?_
          refine r_iconst hC (v := (0)) dX10_peg_31 (by decide) (by decide) (fun x21_ e21 t21 => ?_)
          refine r_iconst hC (v := (2)) dX10_peg_32 (by decide) (by decide) (fun x22_ e22 t22 => ?_)
          refine r_callS hC (As := [.int x4, .int x21_, .int x22_]) (rest := []) (f_X10_in g (xL X) K len I8 J R hs8 x4 x21_ x22_) mT_6_8 mT_1_10 mT_6_6 mT_6_7 okX10_in ⟨by decide, by decide⟩ rfl rfl (Nat.le_of_ble_eq_true rfl) ⟨by decide, by decide⟩ dX10_peg_33 (aI0 (F := fun st M => P g X 6 36 [(0, .ref a0), (1, .int x1), (2, .int x2), (3, .int x3), (4, .int x4)] st _ _ M) (M := (K, len, I8, J, R)) fun x23_ h23 => ?_)
          have k23_0 := h23
          clear h23
          show P g X 6 36 [(0, .ref a0), (1, .int x1), (2, .int x2), (3, .int x3), (4, .int x4)] [.int x23_] _ _ (K, len, I8, J, R)
          rcases k23_0 with ⟨hr23, hw23⟩ | ⟨hr23, hw23⟩
          · refine r_if_ne hC (tgt := 45) dX10_peg_36 (by decide) (fun c24 => ?_) (fun c24 => ?_)
            rotate_left
            · exfalso; omega
            refine r_aload_n hC dX10_peg_45 0 rfl ?_
            refine r_iload_n hC dX10_peg_46 1 rfl ?_
            have hv25 : I8 hm 7 = S0 := (Eq.trans (up2_kk eI8 ka0 khm (by decide)) eS0.symm)
            refine r_callV hC (As := [.int x1]) (rest := []) (ci := 10) (f_X10_runsAsTold g (xL X) K len I8 J R hs8 a0 ka0 x1 hm hbm khm (by rw [hv25]; omega) lr hlr klr llr sr hsr ksr lsr ir hir kir lir wr hwr kwr lwr D E (mc.mv hs ka0 khm hF8 rfl) (by omega) (by omega)) mT_6_127 mT_1_10 mT_6_124 mT_6_126 mP_73 okX10_runsAsTold ⟨by decide, by decide⟩ rfl (by show kO (K a0) = _; rw [ka0]; rfl) rfl rfl (Nat.le_of_ble_eq_true rfl) ⟨by decide, by decide⟩ dX10_peg_47 (aV1 (F := fun st M => P g X 6 50 [(0, .ref a0), (1, .int x1), (2, .int x2), (3, .int x3), (4, .int x4)] st _ _ M) (M := (K, len, I8, J, R)) fun I26 h26 => ?_)
            obtain ⟨hs26, hf26, k26_0⟩ := h26
            show P g X 6 50 [(0, .ref a0), (1, .int x1), (2, .int x2), (3, .int x3), (4, .int x4)] [] _ _ (K, len, I26, J, R)
            have hF26 : Fr K [(11, 0), (11, 1), (11, 2), (11, 19), (85, 999), (86, 999), (87, 999), (88, 999)] I I26 := hF8.trans hf26 rfl rfl
            refine r_bipush hC (v := (60)) dX10_peg_50 (by decide) (by decide) (fun x27_ e27 t27 => ?_)
            refine r_iload_n hC dX10_peg_52 2 rfl ?_
            refine r_imul hC dX10_peg_53 (fun x28_ e28 => ?_)
            try have t28 : x28_.toInt = (60) * x2.toInt := by rw [e28]; exact ti_mul (by omega) rfl (by omega) (by omega)
            refine r_iload_n hC dX10_peg_54 3 rfl ?_
            refine r_iadd hC dX10_peg_55 (fun x29_ e29 => ?_)
            try have t29 : x29_.toInt = x28_.toInt + x3.toInt := by rw [e29]; exact ti_add (by omega) (by omega)
            refine r_istore hC (lv' := [(5, .int x29_), (0, .ref a0), (1, .int x1), (2, .int x2), (3, .int x3), (4, .int x4)]) dX10_peg_56 (by decide) rfl ?_
            refine r_aload_n hC dX10_peg_58 1 rfl ?_
            refine r_iload hC dX10_peg_59 5 rfl ?_
            refine r_if_ne hC (tgt := 74) dX10_peg_61 (by decide) (fun c30 => ?_) (fun c30 => ?_)
            · refine r_iload hC dX10_peg_74 5 rfl ?_
              refine r_iconst hC (v := (1)) dX10_peg_76 (by decide) (by decide) (fun x31_ e31 t31 => ?_)
              refine r_icmp_ne hC (tgt := 90) dX10_peg_77 (by decide) (fun c32 => ?_) (fun c32 => ?_)
              · refine r_aload_n hC dX10_peg_90 1 rfl ?_
                refine r_getr hC 18 (ci := 10) rfl u10_in (by decide) mT_5_13 dX10_peg_91 ka0 rfl rfl hwr ?_
                refine r_iload hC dX10_peg_94 0 rfl ?_
                refine x_iaload hC kwr lwr (by decide) rfl rfl dX10_peg_96 (by omega) (by omega) (fun x33_ e33 => ?_)
                have q33 : x33_.toInt = WV D x1.toInt.toNat (Ad D x1.toInt.toNat (LP1 D) 1) x3.toInt.toNat x2.toInt.toNat := by rw [e33, clx (i := x29_) rfl (by omega), show x29_.toInt.toNat = 60 * x2.toInt.toNat + x3.toInt.toNat by omega]; exact k26_0.wrn (by omega) (by omega)
                refine r_callV hC (As := [.int x33_]) (rest := []) (ci := 10) (c_X10_done g (xL X) K len I26 J R hs26 a0 ka0 x33_) mT_6_79 mT_1_10 mT_6_76 mT_6_78 mP_67 okX10_done ⟨by decide, by decide⟩ rfl (by show kO (K a0) = _; rw [ka0]; rfl) rfl rfl (Nat.le_of_ble_eq_true rfl) ⟨by decide, by decide⟩ dX10_peg_97 (aI1 (F := fun st M => P g X 6 100 [(5, .int x29_), (0, .ref a0), (1, .int x1), (2, .int x2), (3, .int x3), (4, .int x4)] st _ _ M) (M := (K, len, I26, J, R)) fun x34_ I34 h34 => ?_)
                obtain ⟨hs34, hf34, k34_0, k34_1, k34_2⟩ := h34
                show P g X 6 100 [(5, .int x29_), (0, .ref a0), (1, .int x1), (2, .int x2), (3, .int x3), (4, .int x4)] [.int x34_] _ _ (K, len, I34, J, R)
                have hF34 : Fr K [(11, 0), (11, 1), (11, 2), (11, 19), (85, 999), (86, 999), (87, 999), (88, 999)] I I34 := hF26.trans hf34 rfl rfl
                have mo34 := k26_0.mv ka0 klr ksr kir kwr hf34 rfl
                exact r_iret hC hQ hlk hr rfl (by decide) (by decide) dX10_peg_100 ⟨_, _, rfl, rfl, ⟨hs34, hF34, (by first | exact Or.inl ⟨hz, by omega⟩ | exact Or.inr ⟨hm, hbm, Or.inr ⟨by omega, by omega⟩⟩ | exact Or.inr ⟨hm, hbm, Or.inl ⟨by omega, (congrArg Int32.toInt k34_0).trans (by first | (rw [if_pos (by omega)]; exact q33) | (rw [if_neg (by omega), if_pos (by omega)]; exact q33) | (rw [if_neg (by omega), if_neg (by omega)]; exact q33))⟩⟩), (by omega)⟩⟩
              · refine r_aload_n hC dX10_peg_80 1 rfl ?_
                refine r_getr hC 16 (ci := 10) rfl u10_in (by decide) mT_5_11 dX10_peg_81 ka0 rfl rfl hsr ?_
                refine r_iload hC dX10_peg_84 0 rfl ?_
                refine x_iaload hC ksr lsr (by decide) rfl rfl dX10_peg_86 (by omega) (by omega) (fun x35_ e35 => ?_)
                have q35 : x35_.toInt = SV D x1.toInt.toNat (Ad D x1.toInt.toNat (LP1 D) 1) x3.toInt.toNat x2.toInt.toNat := by rw [e35, clx (i := x29_) rfl (by omega), show x29_.toInt.toNat = 60 * x2.toInt.toNat + x3.toInt.toNat by omega]; exact k26_0.spd (by omega) (by omega)
                have jb35 := mc.svb (s := x1.toInt.toNat) (show ((x1.toInt.toNat : Nat) : Int) < D 0 7 by omega) (w2 := 1) x3.toInt.toNat x2.toInt.toNat
                refine r_goto hC (tgt := 97) dX10_peg_87 (by decide) ?_
                refine r_callV hC (As := [.int x35_]) (rest := []) (ci := 10) (c_X10_done g (xL X) K len I26 J R hs26 a0 ka0 x35_) mT_6_79 mT_1_10 mT_6_76 mT_6_78 mP_67 okX10_done ⟨by decide, by decide⟩ rfl (by show kO (K a0) = _; rw [ka0]; rfl) rfl rfl (Nat.le_of_ble_eq_true rfl) ⟨by decide, by decide⟩ dX10_peg_97 (aI1 (F := fun st M => P g X 6 100 [(5, .int x29_), (0, .ref a0), (1, .int x1), (2, .int x2), (3, .int x3), (4, .int x4)] st _ _ M) (M := (K, len, I26, J, R)) fun x36_ I36 h36 => ?_)
                obtain ⟨hs36, hf36, k36_0, k36_1, k36_2⟩ := h36
                show P g X 6 100 [(5, .int x29_), (0, .ref a0), (1, .int x1), (2, .int x2), (3, .int x3), (4, .int x4)] [.int x36_] _ _ (K, len, I36, J, R)
                have hF36 : Fr K [(11, 0), (11, 1), (11, 2), (11, 19), (85, 999), (86, 999), (87, 999), (88, 999)] I I36 := hF26.trans hf36 rfl rfl
                have mo36 := k26_0.mv ka0 klr ksr kir kwr hf36 rfl
                exact r_iret hC hQ hlk hr rfl (by decide) (by decide) dX10_peg_100 ⟨_, _, rfl, rfl, ⟨hs36, hF36, (by first | exact Or.inl ⟨hz, by omega⟩ | exact Or.inr ⟨hm, hbm, Or.inr ⟨by omega, by omega⟩⟩ | exact Or.inr ⟨hm, hbm, Or.inl ⟨by omega, (congrArg Int32.toInt k36_0).trans (by first | (rw [if_pos (by omega)]; exact q35) | (rw [if_neg (by omega), if_pos (by omega)]; exact q35) | (rw [if_neg (by omega), if_neg (by omega)]; exact q35))⟩⟩), (by omega)⟩⟩
            · refine r_aload_n hC dX10_peg_64 1 rfl ?_
              refine r_getr hC 17 (ci := 10) rfl u10_in (by decide) mT_5_12 dX10_peg_65 ka0 rfl rfl hir ?_
              refine r_iload hC dX10_peg_68 0 rfl ?_
              refine x_iaload hC kir lir (by decide) rfl rfl dX10_peg_70 (by omega) (by omega) (fun x37_ e37 => ?_)
              have q37 : x37_.toInt = NV D x1.toInt.toNat (Ad D x1.toInt.toNat (LP1 D) 1) x3.toInt.toNat x2.toInt.toNat := by rw [e37, clx (i := x29_) rfl (by omega), show x29_.toInt.toNat = 60 * x2.toInt.toNat + x3.toInt.toNat by omega]; exact k26_0.inc (by omega) (by omega)
              have jb37 := mc.nvb (s := x1.toInt.toNat) (show ((x1.toInt.toNat : Nat) : Int) < D 0 7 by omega) (w2 := 1) x3.toInt.toNat x2.toInt.toNat (by omega)
              refine r_goto hC (tgt := 97) dX10_peg_71 (by decide) ?_
              refine r_callV hC (As := [.int x37_]) (rest := []) (ci := 10) (c_X10_done g (xL X) K len I26 J R hs26 a0 ka0 x37_) mT_6_79 mT_1_10 mT_6_76 mT_6_78 mP_67 okX10_done ⟨by decide, by decide⟩ rfl (by show kO (K a0) = _; rw [ka0]; rfl) rfl rfl (Nat.le_of_ble_eq_true rfl) ⟨by decide, by decide⟩ dX10_peg_97 (aI1 (F := fun st M => P g X 6 100 [(5, .int x29_), (0, .ref a0), (1, .int x1), (2, .int x2), (3, .int x3), (4, .int x4)] st _ _ M) (M := (K, len, I26, J, R)) fun x38_ I38 h38 => ?_)
              obtain ⟨hs38, hf38, k38_0, k38_1, k38_2⟩ := h38
              show P g X 6 100 [(5, .int x29_), (0, .ref a0), (1, .int x1), (2, .int x2), (3, .int x3), (4, .int x4)] [.int x38_] _ _ (K, len, I38, J, R)
              have hF38 : Fr K [(11, 0), (11, 1), (11, 2), (11, 19), (85, 999), (86, 999), (87, 999), (88, 999)] I I38 := hF26.trans hf38 rfl rfl
              have mo38 := k26_0.mv ka0 klr ksr kir kwr hf38 rfl
              exact r_iret hC hQ hlk hr rfl (by decide) (by decide) dX10_peg_100 ⟨_, _, rfl, rfl, ⟨hs38, hF38, (by first | exact Or.inl ⟨hz, by omega⟩ | exact Or.inr ⟨hm, hbm, Or.inr ⟨by omega, by omega⟩⟩ | exact Or.inr ⟨hm, hbm, Or.inl ⟨by omega, (congrArg Int32.toInt k38_0).trans (by first | (rw [if_pos (by omega)]; exact q37) | (rw [if_neg (by omega), if_pos (by omega)]; exact q37) | (rw [if_neg (by omega), if_neg (by omega)]; exact q37))⟩⟩), (by omega)⟩⟩
          · refine r_if_ne hC (tgt := 45) dX10_peg_36 (by decide) (fun c39 => ?_) (fun c39 => ?_)
            · exfalso; omega
            refine r_aload_n hC dX10_peg_39 0 rfl ?_
            refine r_iconst hC (v := (1)) dX10_peg_40 (by decide) (by decide) (fun x40_ e40 t40 => ?_)
            refine r_callV hC (As := [.int x40_]) (rest := []) (ci := 10) (c_X10_refused g (xL X) K len I8 J R hs8 a0 ka0 x40_) mT_5_85 mT_1_10 mT_5_82 mT_5_84 mP_48 okX10_refused ⟨by decide, by decide⟩ rfl (by show kO (K a0) = _; rw [ka0]; rfl) rfl rfl (Nat.le_of_ble_eq_true rfl) ⟨by decide, by decide⟩ dX10_peg_41 (aI1 (F := fun st M => P g X 6 44 [(0, .ref a0), (1, .int x1), (2, .int x2), (3, .int x3), (4, .int x4)] st _ _ M) (M := (K, len, I8, J, R)) fun x41_ I41 h41 => ?_)
            obtain ⟨hs41, hf41, k41_0, k41_1, k41_2⟩ := h41
            show P g X 6 44 [(0, .ref a0), (1, .int x1), (2, .int x2), (3, .int x3), (4, .int x4)] [.int x41_] _ _ (K, len, I41, J, R)
            have hF41 : Fr K [(11, 0), (11, 1), (11, 2), (11, 19), (85, 999), (86, 999), (87, 999), (88, 999)] I I41 := hF8.trans hf41 rfl rfl
            exact r_iret hC hQ hlk hr rfl (by decide) (by decide) dX10_peg_44 ⟨_, _, rfl, rfl, ⟨hs41, hF41, (by first | exact Or.inl ⟨hz, by omega⟩ | exact Or.inr ⟨hm, hbm, Or.inr ⟨by omega, by omega⟩⟩ | exact Or.inr ⟨hm, hbm, Or.inl ⟨by omega, (congrArg Int32.toInt k41_0).trans (by first | (rw [if_pos (by omega)]; exact NOlq) | (rw [if_neg (by omega), if_pos (by omega)]; exact NOlq) | (rw [if_neg (by omega), if_neg (by omega)]; exact NOlq))⟩⟩), (by omega)⟩⟩

