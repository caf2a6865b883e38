set_option maxHeartbeats 4000000 in
set_option maxRecDepth 100000 in
theorem f_X8_courseOf (g : GG) (l : Launch) (K len : Nat → Nat) (I : Nat → Nat → Int32) (J : Nat → Nat → Int64) (R : Nat → Nat → Option Nat) (hs : Sf K len I R) (a0 : Nat) (ka0 : K a0 = 9) (x1 : Int32) (h : Nat) (hh : R a0 2 = some h) (kh : K h = 2) (lk : Nat) (hlk2 : R h 0 = some lk) (klk : K lk = 3) (rd : Nat) (hrd : R a0 9 = some rd) (krd : K rd = 4) (lv : Nat) (hlv : R a0 4 = some lv) (klv : K lv = 41) (llv : len lv = 60) (kn : Nat) (hkn : R a0 6 = some kn) (kkn : K kn = 43) (lkn : len kn = 6) (cr : Nat) (hcr : R a0 5 = some cr) (kcr1 : K cr = 44) (lcr : len cr = 6) (hu : UU K R) (D : DD) (E : Nat → Nat → Int) (hc : KC D E a0 h lk rd I R) (p0 : 0 ≤ x1.toInt) (p1 : x1.toInt < D 0 7) : Ct g l yX8_courseOf cX8_courseOf 3 (Option.some (Jvm.ClassFile.FieldType.object "HillTap$Course")) rmX8_courseOf [.ref a0, .int x1] (K, len, I, J, R) (pR1 (K, len, I, J, R) (fun r I' => Sf K len I' R ∧ Fr K [(1, 5), (1, 6), (43, 999), (50, 999), (51, 999), (52, 999), (53, 999), (54, 999)] I I' ∧ (K r = 1) ∧ (R cr x1.toInt.toNat = some r) ∧ (KC D E a0 h lk rd I' R) ∧ (CO D x1.toInt.toNat (LP1 D) 1 r I' R) ∧ (∀ b k, b ≠ kn → b ≠ r → (∀ j, j < 5 → R r j ≠ some b) → I' b k = I b k))) := by
  refine Ct_intro (by decide +kernel) (Nat.le_of_ble_eq_true rfl) (fun X hC hL hKK hNm hr hlk hQ => ?_)
  subst hL
  have hC : Cx g X cX8_courseOf "HillTap" 3 rmX8_courseOf := hC
  show P g X 3 0 [(0, .ref a0), (1, .int x1)] [] 0 0 (K, len, I, J, R)
  have hF : Fr K [(1, 5), (1, 6), (43, 999), (50, 999), (51, 999), (52, 999), (53, 999), (54, 999)] I I := Fr.refl
  have ka : KA a0 h lk rd K len R := ⟨⟨_, hs⟩, hu, ka0, kh, klk, krd⟩
  obtain ⟨sd1, sd2, sd3, sd4, sd5, sd7, sd8, sd9⟩ := id hc.2.1
  have d7b := hs.rng kh (k := 6) rfl (x := I h 6) rfl
  have d5b := hs.rng kh (k := 1) rfl (x := I h 1) rfl
  have d8b := hs.rng kh (k := 8) rfl (x := I h 8) rfl
  have b_x1 := ti_rng x1
  refine r_aload_n hC dX8_courseOf_0 0 rfl ?_
  refine r_getr hC 5 (ci := 8) rfl u8_in (by decide) mT_2_83 dX8_courseOf_1 ka0 rfl rfl hcr ?_
  refine r_iload_n hC dX8_courseOf_4 1 rfl ?_
  obtain ⟨a1_, hb1, hk1⟩ := hs.crs kcr1 (i := x1) (by omega) (by omega)
  refine x_aaload (C := "HillTap$Course") hC kcr1 lcr (by decide) rfl (by decide) dX8_courseOf_5 (by omega) (by omega) hb1 ?_
  refine r_astore_n hC (lv' := [(2, .ref a1_), (0, .ref a0), (1, .int x1)]) dX8_courseOf_6 (by decide) rfl ?_
  refine r_aload_n hC dX8_courseOf_7 1 rfl ?_
  refine r_getr hC 6 (ci := 8) rfl u8_in (by decide) mT_2_84 dX8_courseOf_8 ka0 rfl rfl hkn ?_
  refine r_iload_n hC dX8_courseOf_11 2 rfl ?_
  refine x_zaload hC kkn lkn (by decide) rfl rfl dX8_courseOf_12 (by omega) (by omega) (fun x2_ e2 => ?_)
  refine r_if_ne hC (tgt := 45) dX8_courseOf_13 (by decide) (fun c3 => ?_) (fun c3 => ?_)
  · have ecl : x1.toNatClampNeg = x1.toInt.toNat := clx rfl (by omega)
    have hbc : R cr x1.toInt.toNat = some a1_ := by rw [← ecl]; exact hb1
    have kcn := hc
    have oth4 : ∀ b k, b ≠ kn → b ≠ a1_ → (∀ j, j < 5 → R a1_ j ≠ some b) → I b k = I b k := fun _ _ _ _ _ => rfl
    have con := hc.kn hkn hcr (by omega) hbc (by rw [← ecl, ← e2]; omega) (by omega)
    refine r_aload_n hC dX8_courseOf_45 0 rfl ?_
    exact r_aret hC hQ hlk hr (by decide) (by decide) dX8_courseOf_46 ⟨_, _, rfl, rfl, ⟨hs, hF, (by assumption), (by exact hbc), (by exact kcn), (by exact con), (by exact oth4)⟩⟩
  · refine r_aload_n hC dX8_courseOf_16 0 rfl ?_
    refine r_aload_n hC dX8_courseOf_17 1 rfl ?_
    refine r_getr hC 2 (ci := 8) rfl u8_in (by decide) mT_2_80 dX8_courseOf_18 ka0 rfl rfl hh ?_
    refine r_aload_n hC dX8_courseOf_21 1 rfl ?_
    refine r_getr hC 2 (ci := 8) rfl u8_in (by decide) mT_2_80 dX8_courseOf_22 ka0 rfl rfl hh ?_
    obtain ⟨a4_, hb4, hk4, hn4⟩ := hs.row kh 7 45 6 (by decide) (by decide)
    refine r_getr hC 7 (ci := 1) rfl u1_in (by decide) mT_1_205 dX8_courseOf_25 kh rfl rfl hb4 ?_
    refine r_iload_n hC dX8_courseOf_28 2 rfl ?_
    obtain ⟨a5_, hb5, hk5⟩ := hs.sto hk4 (i := x1) (by omega) (by omega)
    refine x_aaload (C := "HillTap$Story") hC hk4 hn4 (by decide) rfl (by decide) dX8_courseOf_29 (by omega) (by omega) hb5 ?_
    refine r_aload_n hC dX8_courseOf_30 1 rfl ?_
    refine r_getr hC 4 (ci := 8) rfl u8_in (by decide) mT_2_82 dX8_courseOf_31 ka0 rfl rfl hlv ?_
    refine r_iconst hC (v := (1)) dX8_courseOf_34 (by decide) (by decide) (fun x6_ e6 t6 => ?_)
    obtain ⟨sr, hsr, ksr, lsr⟩ := hs.row hk1 0 50 300 (by decide) (by decide)
    obtain ⟨ir, hir, kir, lir⟩ := hs.row hk1 1 51 300 (by decide) (by decide)
    obtain ⟨wr, hwr, kwr, lwr⟩ := hs.row hk1 2 52 300 (by decide) (by decide)
    obtain ⟨tr, htr, ktr, ltr⟩ := hs.row hk1 3 53 60 (by decide) (by decide)
    obtain ⟨dr, hdr, kdr, ldr⟩ := hs.row hk1 4 54 60 (by decide) (by decide)
    obtain ⟨rr, hrr, krr, lrr⟩ := hs.row kh 5 57 60 (by decide) (by decide)
    obtain ⟨hJ, h6, -⟩ := hc.2.2.1 (by omega)
    have ecl : x1.toNatClampNeg = x1.toInt.toNat := clx rfl (by omega)
    have hbc : R cr x1.toInt.toNat = some a1_ := by rw [← ecl]; exact hb1
    have hbs : R a4_ x1.toInt.toNat = some a5_ := by rw [← ecl]; exact hb5
    obtain ⟨-, q7, q8, q9⟩ := hc.sto hb4 hbs (by omega) (by omega)
    refine r_callV hC (As := [.ref h, .ref a5_, .ref lv, .int x6_]) (rest := []) (ci := 0) (f_X0_follow g (xL X) K len I J R hs a1_ hk1 h kh a5_ hk5 lv klv llv x6_ sr hsr ksr lsr ir hir kir lir wr hwr kwr lwr tr htr ktr ltr dr hdr kdr ldr (LP1 D) (hc.lev (by omega) hlv) (LP1_b hJ) D hJ h6 x1.toInt.toNat (by omega) q7 q8 q9 lk hlk2 klk hu hc.1 sd1 sd5 rr hrr krr lrr (hc.rn hrr)) mT_3_167 mT_1_8 mT_3_164 mT_3_165 mT_3_166 okX0_follow ⟨by decide, by decide⟩ rfl (by show kO (K a1_) = _; rw [hk1]; rfl) rfl rfl (Nat.le_of_ble_eq_true rfl) ⟨by decide, by decide⟩ dX8_courseOf_35 (aV1 (F := fun st M => P g X 3 38 [(2, .ref a1_), (0, .ref a0), (1, .int x1)] st _ _ M) (M := (K, len, I, J, R)) fun I7 h7 => ?_)
    obtain ⟨hs7, hf7, k7_0, k7_1, k7_2, k7_3⟩ := h7
    show P g X 3 38 [(2, .ref a1_), (0, .ref a0), (1, .int x1)] [] _ _ (K, len, I7, J, R)
    have hF7 : Fr K [(1, 5), (1, 6), (43, 999), (50, 999), (51, 999), (52, 999), (53, 999), (54, 999)] I I7 := hF.trans hf7 rfl rfl
    obtain ⟨j0, j1, j2, j3⟩ := (show _ ∧ _ ∧ _ ∧ _ from ⟨k7_0, k7_1, k7_2, k7_3⟩)
    rw [t6] at j0 j1 j2
    have coq : CO D x1.toInt.toNat (LP1 D) 1 a1_ I7 R := ⟨fun s1 s2 s3 s4 g0 g1 g2 g3 => by rw [hsr] at g0; rw [hir] at g1; rw [hwr] at g2; rw [htr] at g3; cases g0; cases g1; cases g2; cases g3; exact j0, j1, j2⟩
    have othq : ∀ b k, b ≠ a1_ → (∀ j, j < 5 → R a1_ j ≠ some b) → I7 b k = I b k := fun b k z1 z2 => j3 b k z1 (fun y => z2 0 (by decide) (by rw [y]; exact hsr)) (fun y => z2 1 (by decide) (by rw [y]; exact hir)) (fun y => z2 2 (by decide) (by rw [y]; exact hwr)) (fun y => z2 3 (by decide) (by rw [y]; exact htr)) (fun y => z2 4 (by decide) (by rw [y]; exact hdr))
    refine r_aload_n hC dX8_courseOf_38 1 rfl ?_
    refine r_getr hC 6 (ci := 8) rfl u8_in (by decide) mT_2_84 dX8_courseOf_39 ka0 rfl rfl hkn ?_
    refine r_iload_n hC dX8_courseOf_42 2 rfl ?_
    refine r_iconst hC (v := (1)) dX8_courseOf_43 (by decide) (by decide) (fun x8_ e8 t8 => ?_)
    refine x_zastore hC kkn lkn (by decide) rfl rfl dX8_courseOf_44 (by omega) (by omega) (fun I9 eI9 => ?_)
    have hs9 := hs7.put0 eI9 kkn (rng_arr (by decide) _) rfl (xF_arr (by decide) _) (by decide)
    have hF9 := hF7.put eI9 kkn (inS_arr rfl _)
    have eC9 := eI9
    rw [ecl] at eC9
    obtain ⟨kcn, con⟩ := hc.fol ka hkn hcr (by omega) hbc othq coq eC9
    have oth4 : ∀ b k, b ≠ kn → b ≠ a1_ → (∀ j, j < 5 → R a1_ j ≠ some b) → I9 b k = I b k := fun b k z0 z1 z2 => (up2_at (Or.inl z0) eC9).trans (othq b k z1 z2)
    refine r_aload_n hC dX8_courseOf_45 0 rfl ?_
    exact r_aret hC hQ hlk hr (by decide) (by decide) dX8_courseOf_46 ⟨_, _, rfl, rfl, ⟨hs9, hF9, (by assumption), (by exact hbc), (by exact kcn), (by exact con), (by exact oth4)⟩⟩

