theorem CO.oth {D : DD} {E : Nat → Nat → Int} {x h lk rd s c r kn : Nat} {K len : Nat → Nat} {I I1 : Nat → Nat → Int32} {R : Nat → Nat → Option Nat} {L : Nat → Int} {wet : Int} (hco : CO D s L wet c I R) (ka : KA x h lk rd K len R) (kc : K c = 1) (kr : K r = 1) (kkn : K kn = 43) (hne : c ≠ r) (he : ∀ b k, b ≠ kn → b ≠ r → (∀ j, j < 5 → R r j ≠ some b) → I1 b k = I b k) : CO D s L wet c I1 R := by
  obtain ⟨⟨I0, hs⟩, hu, -⟩ := ka
  refine hco.eq (fun b k z => he b k (fun y => ?_) (fun y => ?_) (fun i hi y => ?_))
  · rcases z with z | ⟨j, hj, z⟩
    · rw [← y, z, kc] at kkn; exact absurd kkn (by decide)
    · have := rk1 hs kc (by omega : j < 5) z; rw [y, kkn] at this; omega
  · rcases z with z | ⟨j, hj, z⟩
    · exact hne (by rw [← z, y])
    · have := rk1 hs kc (by omega : j < 5) z; rw [y, kr] at this; omega
  · have k5 := rk1 hs kr hi y
    rcases z with z | ⟨j, hj, z⟩
    · rw [z, kc] at k5; omega
    · exact hu.ne z y (by omega) (Or.inl hne) rfl
set_option maxHeartbeats 4000000 in
set_option maxRecDepth 100000 in
theorem a_X8_part (g : GG) (l : Launch) (K len : Nat → Nat) (I : Nat → Nat → Int32) (J : Nat → Nat → Int64) (R : Nat → Nat → Option Nat) (hs : Sf K len I R) (a0 : Nat) (ka0 : K a0 = 9) (x1 : Int32) (x2 : Int32) (x3 : Int32) (h : Nat) (hh : R a0 2 = some h) (kh : K h = 2) (lk : Nat) (hlk2 : R h 0 = some lk) (klk : K lk = 3) (rd : Nat) (hrd : R a0 9 = some rd) (krd : K rd = 4) (lv : Nat) (hlv : R a0 4 = some lv) (klv : K lv = 41) (llv : len lv = 60) (kn : Nat) (hkn : R a0 6 = some kn) (kkn : K kn = 43) (lkn : len kn = 6) (cr : Nat) (hcr : R a0 5 = some cr) (kcr1 : K cr = 44) (lcr : len cr = 6) (hu : UU K R) (D : DD) (E : Nat → Nat → Int) (hc : KC D E a0 h lk rd I R) : Ct g l yX8_part cX8_part 5 (Option.some Jvm.ClassFile.FieldType.int) rmX8_part [.ref a0, .int x1, .int x2, .int x3] (K, len, I, J, R) (pI1 (K, len, I, J, R) (fun r I' => Sf K len I' R ∧ Fr K [(1, 5), (1, 6), (9, 12), (43, 999), (50, 999), (51, 999), (52, 999), (53, 999), (54, 999)] I I' ∧ (KC D E a0 h lk rd I' R) ∧ (((0 ≤ x1.toInt ∧ x1.toInt < D 0 7) ∧ (0 ≤ x2.toInt ∧ x2.toInt < D 0 5) ∧ 0 ≤ x3.toInt ∧ x3.toInt ≤ 59) ∧ r.toInt = (if D 7 x1.toInt.toNat = 5 then NV D x1.toInt.toNat (Ad D x1.toInt.toNat (LP1 D) 1) x3.toInt.toNat x2.toInt.toNat - NV D x1.toInt.toNat (Ad D x1.toInt.toNat (LP1 D) 0) x3.toInt.toNat x2.toInt.toNat else 0) ∨ ¬ ((0 ≤ x1.toInt ∧ x1.toInt < D 0 7) ∧ (0 ≤ x2.toInt ∧ x2.toInt < D 0 5) ∧ 0 ≤ x3.toInt ∧ x3.toInt ≤ 59) ∧ r.toInt = -1) ∧ ((I' a0 12).toInt ≠ 4))) := by
  refine Ct_intro (by decide +kernel) (Nat.le_of_ble_eq_true rfl) (fun X hC hL hKK hNm hr hlk hQ => ?_)
  subst hL
  have hC : Cx g X cX8_part "HillTap" 5 rmX8_part := hC
  show P g X 5 0 [(0, .ref a0), (1, .int x1), (2, .int x2), (3, .int x3)] [] 0 0 (K, len, I, J, R)
  have hF : Fr K [(1, 5), (1, 6), (9, 12), (43, 999), (50, 999), (51, 999), (52, 999), (53, 999), (54, 999)] I I := Fr.refl
  have ka : KA a0 h lk rd K len R := ⟨⟨_, hs⟩, hu, ka0, kh, klk, krd⟩
  obtain ⟨sd1, sd2, sd3, sd4, sd5, sd7, sd8, sd9⟩ := id hc.2.1
  have d7b := hs.rng kh (k := 6) rfl (x := I h 6) rfl
  have d5b := hs.rng kh (k := 1) rfl (x := I h 1) rfl
  have d8b := hs.rng kh (k := 8) rfl (x := I h 8) rfl
  obtain ⟨tl, htl, ktl, ltl⟩ := hs.row ka0 7 41 60 (by decide) (by decide)
  obtain ⟨tc, htc, ktc⟩ := hs.obj ka0 8 1 (by decide)
  obtain ⟨rr, hrr, krr, lrr⟩ := hs.row kh 5 57 60 (by decide) (by decide)
  obtain ⟨sr, hsr, ksr, lsr⟩ := hs.row ktc 0 50 300 (by decide) (by decide)
  obtain ⟨ir, hir, kir, lir⟩ := hs.row ktc 1 51 300 (by decide) (by decide)
  obtain ⟨wr, hwr, kwr, lwr⟩ := hs.row ktc 2 52 300 (by decide) (by decide)
  obtain ⟨tr, htr, ktr, ltr⟩ := hs.row ktc 3 53 60 (by decide) (by decide)
  obtain ⟨dr, hdr, kdr, ldr⟩ := hs.row ktc 4 54 60 (by decide) (by decide)
  have b_x1 := ti_rng x1
  have b_x2 := ti_rng x2
  have b_x3 := ti_rng x3
  refine r_aload_n hC dX8_part_0 0 rfl ?_
  refine r_iload_n hC dX8_part_1 1 rfl ?_
  refine r_iload_n hC dX8_part_2 2 rfl ?_
  refine r_iload_n hC dX8_part_3 3 rfl ?_
  refine r_callV hC (As := [.int x1, .int x2, .int x3]) (rest := []) (ci := 8) (f_X8_isPegDay g (xL X) K len I J R hs a0 ka0 x1 x2 x3 h hh kh) mT_3_151 mT_1_1 mT_3_148 mT_3_150 mP_23 okX8_isPegDay ⟨by decide, by decide⟩ rfl (by show kO (K a0) = _; rw [ka0]; rfl) rfl rfl (Nat.le_of_ble_eq_true rfl) ⟨by decide, by decide⟩ dX8_part_4 (aI0 (F := fun st M => P g X 5 7 [(0, .ref a0), (1, .int x1), (2, .int x2), (3, .int x3)] st _ _ M) (M := (K, len, I, J, R)) fun x1_ h1 => ?_)
  have k1_0 := h1
  clear h1
  show P g X 5 7 [(0, .ref a0), (1, .int x1), (2, .int x2), (3, .int x3)] [.int x1_] _ _ (K, len, I, J, R)
  rcases k1_0 with ⟨hr1, hw1⟩ | ⟨hr1, hw1⟩
  · refine r_if_ne hC (tgt := 16) dX8_part_7 (by decide) (fun c2 => ?_) (fun c2 => ?_)
    rotate_left
    · exfalso; omega
    refine r_aload_n hC dX8_part_16 0 rfl ?_
    refine r_getr hC 2 (ci := 8) rfl u8_in (by decide) mT_2_80 dX8_part_17 ka0 rfl rfl hh ?_
    obtain ⟨a3_, hb3, hk3, hn3⟩ := hs.row kh 7 45 6 (by decide) (by decide)
    refine r_getr hC 7 (ci := 1) rfl u1_in (by decide) mT_1_205 dX8_part_20 kh rfl rfl hb3 ?_
    refine r_iload_n hC dX8_part_23 1 rfl ?_
    obtain ⟨a4_, hb4, hk4⟩ := hs.sto hk3 (i := x1) (by omega) (by omega)
    refine x_aaload (C := "HillTap$Story") hC hk3 hn3 (by decide) rfl (by decide) dX8_part_24 (by omega) (by omega) hb4 ?_
    refine r_geti hC 1 (ci := 4) rfl u4_in (by decide) mT_1_165 dX8_part_25 hk4 rfl rfl (fun x5_ e5 => ?_)
    have f5 : x5_.toInt = (I a4_ 1).toInt := by rw [e5]
    have q5 : x5_.toInt = D 7 x1.toInt.toNat := by rw [e5]; exact (hc.sto hb3 (by rw [← clx (i := x1) rfl (by omega)]; exact hb4) (by omega) (by omega)).2.1
    refine r_iconst hC (v := (5)) dX8_part_28 (by decide) (by decide) (fun x6_ e6 t6 => ?_)
    refine r_icmp_eq hC (tgt := 38) dX8_part_29 (by decide) (fun c7 => ?_) (fun c7 => ?_)
    · refine r_aload_n hC dX8_part_38 0 rfl ?_
      refine r_getr hC 8 (ci := 8) rfl u8_in (by decide) mT_2_86 dX8_part_39 ka0 rfl rfl htc ?_
      refine r_aload_n hC dX8_part_42 0 rfl ?_
      refine r_getr hC 2 (ci := 8) rfl u8_in (by decide) mT_2_80 dX8_part_43 ka0 rfl rfl hh ?_
      refine r_aload_n hC dX8_part_46 0 rfl ?_
      refine r_getr hC 2 (ci := 8) rfl u8_in (by decide) mT_2_80 dX8_part_47 ka0 rfl rfl hh ?_
      refine r_getr hC 7 (ci := 1) rfl u1_in (by decide) mT_1_205 dX8_part_50 kh rfl rfl hb3 ?_
      refine r_iload_n hC dX8_part_53 1 rfl ?_
      obtain ⟨a8_, hb8, hk8⟩ := hs.sto hk3 (i := x1) (by omega) (by omega)
      refine x_aaload (C := "HillTap$Story") hC hk3 hn3 (by decide) rfl (by decide) dX8_part_54 (by omega) (by omega) hb8 ?_
      refine r_aload_n hC dX8_part_55 0 rfl ?_
      refine r_getr hC 4 (ci := 8) rfl u8_in (by decide) mT_2_82 dX8_part_56 ka0 rfl rfl hlv ?_
      refine r_iconst hC (v := (0)) dX8_part_59 (by decide) (by decide) (fun x9_ e9 t9 => ?_)
      obtain ⟨hJ, h6, -⟩ := hc.2.2.1 (by omega)
      have ecl : x1.toNatClampNeg = x1.toInt.toNat := clx rfl (by omega)
      have hbs : R a3_ x1.toInt.toNat = some a8_ := by rw [← ecl]; exact hb8
      obtain ⟨-, q7, q8, q9⟩ := hc.sto hb3 hbs (by omega) (by omega)
      refine r_callV hC (As := [.ref h, .ref a8_, .ref lv, .int x9_]) (rest := []) (ci := 0) (f_X0_follow g (xL X) K len I J R hs tc ktc h kh a8_ hk8 lv klv llv x9_ sr hsr ksr lsr ir hir kir lir wr hwr kwr lwr tr htr ktr ltr dr hdr kdr ldr (LP1 D) (hc.lev (by omega) hlv) (LP1_b hJ) D hJ h6 x1.toInt.toNat (by omega) q7 q8 q9 lk hlk2 klk hu hc.1 hc.2.1.1 hc.2.1.2.2.2.2.1 rr hrr krr lrr (hc.rn hrr)) mT_3_167 mT_1_8 mT_3_164 mT_3_165 mT_3_166 okX0_follow ⟨by decide, by decide⟩ rfl (by show kO (K tc) = _; rw [ktc]; rfl) rfl rfl (Nat.le_of_ble_eq_true rfl) ⟨by decide, by decide⟩ dX8_part_60 (aV1 (F := fun st M => P g X 5 63 [(0, .ref a0), (1, .int x1), (2, .int x2), (3, .int x3)] st _ _ M) (M := (K, len, I, J, R)) fun I10 h10 => ?_)
      obtain ⟨hs10, hf10, k10_0, k10_1, k10_2, k10_3⟩ := h10
      show P g X 5 63 [(0, .ref a0), (1, .int x1), (2, .int x2), (3, .int x3)] [] _ _ (K, len, I10, J, R)
      have hF10 : Fr K [(1, 5), (1, 6), (9, 12), (43, 999), (50, 999), (51, 999), (52, 999), (53, 999), (54, 999)] I I10 := hF.trans hf10 rfl rfl
      have hc10 := hc.eqT ka htc htl (fun a k _ z1 z2 z3 => k10_3 a k z1 (fun y => z3 0 (by decide) (by rw [y]; exact hsr)) (fun y => z3 1 (by decide) (by rw [y]; exact hir)) (fun y => z3 2 (by decide) (by rw [y]; exact hwr)) (fun y => z3 3 (by decide) (by rw [y]; exact htr)) (fun y => z3 4 (by decide) (by rw [y]; exact hdr)))
      have j0 := k10_0; have j1 := k10_1; have j2 := k10_2
      rw [t9] at j0 j1 j2
      have cot : CO D x1.toInt.toNat (LP1 D) 0 tc I10 R := ⟨fun s1 s2 s3 s4 g0 g1 g2 g3 => by rw [hsr] at g0; rw [hir] at g1; rw [hwr] at g2; rw [htr] at g3; cases g0; cases g1; cases g2; cases g3; exact j0, j1, j2⟩
      refine r_iload_n hC dX8_part_63 2 rfl ?_
      refine r_iload_n hC dX8_part_64 3 rfl ?_
      refine r_callS hC (As := [.int x2, .int x3]) (rest := []) (c_X8_row g (xL X) K len I10 J R hs10 x2 x3 (by omega) (by omega) (by omega) (by omega)) mT_3_192 mT_1_1 mT_3_197 mT_3_191 okX8_row ⟨by decide, by decide⟩ rfl rfl (Nat.le_of_ble_eq_true rfl) ⟨by decide, by decide⟩ dX8_part_65 (aI0 (F := fun st M => P g X 5 68 [(0, .ref a0), (1, .int x1), (2, .int x2), (3, .int x3)] st _ _ M) (M := (K, len, I10, J, R)) fun x11_ h11 => ?_)
      have k11_0 := h11
      clear h11
      show P g X 5 68 [(0, .ref a0), (1, .int x1), (2, .int x2), (3, .int x3)] [.int x11_] _ _ (K, len, I10, J, R)
      refine r_istore hC (lv' := [(4, .int x11_), (0, .ref a0), (1, .int x1), (2, .int x2), (3, .int x3)]) dX8_part_68 (by decide) rfl ?_
      refine r_aload_n hC dX8_part_70 1 rfl ?_
      refine r_aload_n hC dX8_part_71 1 rfl ?_
      refine r_iload_n hC dX8_part_72 2 rfl ?_
      refine r_callV hC (As := [.int x1]) (rest := [.ref a0]) (ci := 8) (f_X8_courseOf g (xL X) K len I10 J R hs10 a0 ka0 x1 h hh kh lk hlk2 klk rd hrd krd lv hlv klv llv kn hkn kkn lkn cr hcr kcr1 lcr hu D E hc10 (by omega) (by omega)) mT_3_163 mT_1_1 mT_3_160 mT_3_162 mP_26 okX8_courseOf ⟨by decide, by decide⟩ rfl (by show kO (K a0) = _; rw [ka0]; rfl) rfl rfl (Nat.le_of_ble_eq_true rfl) ⟨by decide, by decide⟩ dX8_part_73 (aR1 (F := fun st M => P g X 5 76 [(4, .int x11_), (0, .ref a0), (1, .int x1), (2, .int x2), (3, .int x3)] st _ _ M) (M := (K, len, I10, J, R)) fun a12_ I12 h12 => ?_)
      obtain ⟨hs12, hf12, k12_0, k12_1, k12_2, k12_3, k12_4⟩ := h12
      show P g X 5 76 [(4, .int x11_), (0, .ref a0), (1, .int x1), (2, .int x2), (3, .int x3)] [.ref a12_, .ref a0] _ _ (K, len, I12, J, R)
      have hF12 : Fr K [(1, 5), (1, 6), (9, 12), (43, 999), (50, 999), (51, 999), (52, 999), (53, 999), (54, 999)] I I12 := hF10.trans hf12 rfl rfl
      have ntc : tc ≠ a12_ := hu.ne htc k12_1 (by rw [ktc]; decide) (Or.inl (fun z => by rw [z, kcr1] at ka0; exact absurd ka0 (by decide)))
      have cot12 := CO.oth (E := E) cot ka ktc k12_0 kkn ntc k12_4
      obtain ⟨a13_, hb13, hk13, hn13⟩ := hs12.row k12_0 1 51 300 (by decide) (by decide)
      refine r_getr hC 1 (ci := 0) rfl u0_in (by decide) mT_2_29 dX8_part_76 k12_0 rfl rfl hb13 ?_
      refine r_iload hC dX8_part_79 0 rfl ?_
      refine x_iaload hC hk13 hn13 (by decide) rfl rfl dX8_part_81 (by omega) (by omega) (fun x14_ e14 => ?_)
      have q14 : x14_.toInt = NV D x1.toInt.toNat (Ad D x1.toInt.toNat (LP1 D) 1) x3.toInt.toNat x2.toInt.toNat := by rw [e14, clx (i := x11_) rfl (by omega), show x11_.toInt.toNat = 60 * x2.toInt.toNat + x3.toInt.toNat by omega]; exact k12_3.inc hs k12_0 hb13 (by omega) (by omega)
      have jb14 := k12_2.nvb (s := x1.toInt.toNat) (by omega) (w2 := 1) x3.toInt.toNat x2.toInt.toNat (by omega)
      refine r_aload_n hC dX8_part_82 1 rfl ?_
      refine r_getr hC 8 (ci := 8) rfl u8_in (by decide) mT_2_86 dX8_part_83 ka0 rfl rfl htc ?_
      obtain ⟨a15_, hb15, hk15, hn15⟩ := hs12.row ktc 1 51 300 (by decide) (by decide)
      refine r_getr hC 1 (ci := 0) rfl u0_in (by decide) mT_2_29 dX8_part_86 ktc rfl rfl hb15 ?_
      refine r_iload hC dX8_part_89 0 rfl ?_
      refine x_iaload hC hk15 hn15 (by decide) rfl rfl dX8_part_91 (by omega) (by omega) (fun x16_ e16 => ?_)
      have q16 : x16_.toInt = NV D x1.toInt.toNat (Ad D x1.toInt.toNat (LP1 D) 0) x3.toInt.toNat x2.toInt.toNat := by rw [e16, clx (i := x11_) rfl (by omega), show x11_.toInt.toNat = 60 * x2.toInt.toNat + x3.toInt.toNat by omega]; exact cot12.inc hs ktc hb15 (by omega) (by omega)
      have jb16 := k12_2.nvb (s := x1.toInt.toNat) (by omega) (w2 := 0) x3.toInt.toNat x2.toInt.toNat (by omega)
      refine r_isub hC dX8_part_92 (fun x17_ e17 => ?_)
      try have t17 : x17_.toInt = x14_.toInt - x16_.toInt := by rw [e17]; exact ti_sub (by omega) (by omega)
      refine r_callV hC (As := [.int x17_]) (rest := []) (ci := 8) (c_X8_answer g (xL X) K len I12 J R hs12 a0 ka0 x17_) mT_3_115 mT_1_1 mT_3_112 mT_3_114 mP_21 okX8_answer ⟨by decide, by decide⟩ rfl (by show kO (K a0) = _; rw [ka0]; rfl) rfl rfl (Nat.le_of_ble_eq_true rfl) ⟨by decide, by decide⟩ dX8_part_93 (aI1 (F := fun st M => P g X 5 96 [(4, .int x11_), (0, .ref a0), (1, .int x1), (2, .int x2), (3, .int x3)] st _ _ M) (M := (K, len, I12, J, R)) fun x18_ I18 h18 => ?_)
      obtain ⟨hs18, hf18, k18_0, k18_1⟩ := h18
      show P g X 5 96 [(4, .int x11_), (0, .ref a0), (1, .int x1), (2, .int x2), (3, .int x3)] [.int x18_] _ _ (K, len, I18, J, R)
      have hF18 : Fr K [(1, 5), (1, 6), (9, 12), (43, 999), (50, 999), (51, 999), (52, 999), (53, 999), (54, 999)] I I18 := hF12.trans hf18 rfl rfl
      have hc18 := k12_2.mv ka hf18 rfl
      have coa12__18 := k12_3.mv hs k12_0 hf18 rfl
      have cotc_18 := cot12.mv hs ktc hf18 rfl
      exact r_iret hC hQ hlk hr rfl (by decide) (by decide) dX8_part_96 ⟨_, _, rfl, rfl, ⟨hs18, hF18, (by exact hc18), (by first | exact Or.inr ⟨by omega, by omega⟩ | exact Or.inl ⟨by omega, (congrArg Int32.toInt k18_0).trans (by first | (rw [if_neg (by omega)]; omega) | (rw [if_pos (by omega)]; omega))⟩), (by omega)⟩⟩
    · refine r_aload_n hC dX8_part_32 0 rfl ?_
      refine r_iconst hC (v := (0)) dX8_part_33 (by decide) (by decide) (fun x19_ e19 t19 => ?_)
      refine r_callV hC (As := [.int x19_]) (rest := []) (ci := 8) (c_X8_answer g (xL X) K len I J R hs a0 ka0 x19_) mT_3_115 mT_1_1 mT_3_112 mT_3_114 mP_21 okX8_answer ⟨by decide, by decide⟩ rfl (by show kO (K a0) = _; rw [ka0]; rfl) rfl rfl (Nat.le_of_ble_eq_true rfl) ⟨by decide, by decide⟩ dX8_part_34 (aI1 (F := fun st M => P g X 5 37 [(0, .ref a0), (1, .int x1), (2, .int x2), (3, .int x3)] st _ _ M) (M := (K, len, I, J, R)) fun x20_ I20 h20 => ?_)
      obtain ⟨hs20, hf20, k20_0, k20_1⟩ := h20
      show P g X 5 37 [(0, .ref a0), (1, .int x1), (2, .int x2), (3, .int x3)] [.int x20_] _ _ (K, len, I20, J, R)
      have hF20 : Fr K [(1, 5), (1, 6), (9, 12), (43, 999), (50, 999), (51, 999), (52, 999), (53, 999), (54, 999)] I I20 := hF.trans hf20 rfl rfl
      have hc20 := hc.mv ka hf20 rfl
      exact r_iret hC hQ hlk hr rfl (by decide) (by decide) dX8_part_37 ⟨_, _, rfl, rfl, ⟨hs20, hF20, (by exact hc20), (by first | exact Or.inr ⟨by omega, by omega⟩ | exact Or.inl ⟨by omega, (congrArg Int32.toInt k20_0).trans (by first | (rw [if_neg (by omega)]; omega) | (rw [if_pos (by omega)]; omega))⟩), (by omega)⟩⟩
  · refine r_if_ne hC (tgt := 16) dX8_part_7 (by decide) (fun c21 => ?_) (fun c21 => ?_)
    · exfalso; omega
    refine r_aload_n hC dX8_part_10 0 rfl ?_
    refine r_iconst hC (v := (1)) dX8_part_11 (by decide) (by decide) (fun x22_ e22 t22 => ?_)
    refine r_callV hC (As := [.int x22_]) (rest := []) (ci := 8) (c_X8_refuse g (xL X) K len I J R hs a0 ka0 x22_) mT_2_133 mT_1_1 mT_2_130 mT_2_132 mP_0 okX8_refuse ⟨by decide, by decide⟩ rfl (by show kO (K a0) = _; rw [ka0]; rfl) rfl rfl (Nat.le_of_ble_eq_true rfl) ⟨by decide, by decide⟩ dX8_part_12 (aI1 (F := fun st M => P g X 5 15 [(0, .ref a0), (1, .int x1), (2, .int x2), (3, .int x3)] st _ _ M) (M := (K, len, I, J, R)) fun x23_ I23 h23 => ?_)
    obtain ⟨hs23, hf23, k23_0, k23_1⟩ := h23
    show P g X 5 15 [(0, .ref a0), (1, .int x1), (2, .int x2), (3, .int x3)] [.int x23_] _ _ (K, len, I23, J, R)
    have hF23 : Fr K [(1, 5), (1, 6), (9, 12), (43, 999), (50, 999), (51, 999), (52, 999), (53, 999), (54, 999)] I I23 := hF.trans hf23 rfl rfl
    have hc23 := hc.mv ka hf23 rfl
    exact r_iret hC hQ hlk hr rfl (by decide) (by decide) dX8_part_15 ⟨_, _, rfl, rfl, ⟨hs23, hF23, (by exact hc23), (by first | exact Or.inr ⟨by omega, by omega⟩ | exact Or.inl ⟨by omega, (congrArg Int32.toInt k23_0).trans (by first | (rw [if_neg (by omega)]; omega) | (rw [if_pos (by omega)]; omega))⟩), (by omega)⟩⟩
set_option maxHeartbeats 4000000 in
set_option maxRecDepth 100000 in
theorem f_X10_part (g : GG) (l : Launch) (K len : Nat → Nat) (I : Nat → Nat → Int32) (J : Nat → Nat → Int64) (R : Nat → Nat → Option Nat) (hs : Sf K len I R) (a0 : Nat) (ka0 : K a0 = 11) (x1 : Int32) (x2 : Int32) (x3 : Int32) (D : DD) (E : Nat → Nat → Int) (hmx : ∀ hm, R a0 3 = some hm → MC D E a0 hm I R) : Ct g l yX10_part cX10_part 5 (Option.some Jvm.ClassFile.FieldType.int) rmX10_part [.ref a0, .int x1, .int x2, .int x3] (K, len, I, J, R) (pI1 (K, len, I, J, R) (fun r I' => Sf K len I' R ∧ Fr K [(11, 0), (11, 1), (11, 2), (11, 19), (85, 999), (86, 999), (87, 999), (88, 999)] I I' ∧ ((R a0 3 = none ∧ r.toInt = -1) ∨ (∃ hm, R a0 3 = some hm ∧ (((0 ≤ x1.toInt ∧ x1.toInt < D 0 7) ∧ (0 ≤ x2.toInt ∧ x2.toInt < D 0 5) ∧ 0 ≤ x3.toInt ∧ x3.toInt ≤ 59) ∧ r.toInt = (if D 7 x1.toInt.toNat = 5 then NV D x1.toInt.toNat (Ad D x1.toInt.toNat (LP1 D) 1) x3.toInt.toNat x2.toInt.toNat - NV D x1.toInt.toNat (Ad D x1.toInt.toNat (LP1 D) 0) x3.toInt.toNat x2.toInt.toNat else 0) ∨ ¬ ((0 ≤ x1.toInt ∧ x1.toInt < D 0 7) ∧ (0 ≤ x2.toInt ∧ x2.toInt < D 0 5) ∧ 0 ≤ x3.toInt ∧ x3.toInt ≤ 59) ∧ r.toInt = -1))) ∧ ((I' a0 2).toInt = -1))) := by
  refine Ct_intro (by decide +kernel) (Nat.le_of_ble_eq_true rfl) (fun X hC hL hKK hNm hr hlk hQ => ?_)
  subst hL
  have hC : Cx g X cX10_part "HillTapModel" 5 rmX10_part := hC
  show P g X 5 0 [(0, .ref a0), (1, .int x1), (2, .int x2), (3, .int x3)] [] 0 0 (K, len, I, J, R)
  have hF : Fr K [(11, 0), (11, 1), (11, 2), (11, 19), (85, 999), (86, 999), (87, 999), (88, 999)] I I := Fr.refl
  obtain ⟨lr, hlr, klr, llr⟩ := hs.row ka0 15 85 60 (by decide) (by decide)
  obtain ⟨sr, hsr, ksr, lsr⟩ := hs.row ka0 16 86 300 (by decide) (by decide)
  obtain ⟨ir, hir, kir, lir⟩ := hs.row ka0 17 87 300 (by decide) (by decide)
  obtain ⟨wr, hwr, kwr, lwr⟩ := hs.row ka0 18 88 300 (by decide) (by decide)
  have b_x1 := ti_rng x1
  have b_x2 := ti_rng x2
  have b_x3 := ti_rng x3
  rcases hs.2.1.2.2.1 a0 ka0 with hz | ⟨hm, hbm, khm⟩
  · refine r_aload_n hC dX10_part_0 0 rfl ?_
    refine r_iconst hC (v := (0)) dX10_part_1 (by decide) (by decide) (fun x1_ e1 t1 => ?_)
    refine r_puti hC 0 (ci := 10) rfl u10_in tyX10_ok nmX10 (by decide) mT_4_235 rfl rfl rfl dX10_part_2 ka0 rfl rfl (fun I2 eI2 => ?_)
    have hs2 := hs.put0 eI2 ka0 rfl rfl rfl (by decide)
    have hF2 := hF.put eI2 ka0 rfl
    refine r_aload_n hC dX10_part_5 0 rfl ?_
    refine r_iload_n hC dX10_part_6 1 rfl ?_
    refine r_callV hC (As := [.int x1]) (rest := []) (ci := 10) (f_X10_isStory g (xL X) K len I2 J R hs2 a0 ka0 x1) mT_6_119 mT_1_10 mT_6_116 mT_6_118 mP_71 okX10_isStory ⟨by decide, by decide⟩ rfl (by show kO (K a0) = _; rw [ka0]; rfl) rfl rfl (Nat.le_of_ble_eq_true rfl) ⟨by decide, by decide⟩ dX10_part_7 (aI0 (F := fun st M => P g X 5 10 [(0, .ref a0), (1, .int x1), (2, .int x2), (3, .int x3)] st _ _ M) (M := (K, len, I2, J, R)) fun x3_ h3 => ?_)
    have k3_0 := h3
    clear h3
    show P g X 5 10 [(0, .ref a0), (1, .int x1), (2, .int x2), (3, .int x3)] [.int x3_] _ _ (K, len, I2, J, R)
    have kq3 : x3_.toInt = 0 := by rcases k3_0 with ⟨z, y⟩ | ⟨hm9, z, y⟩; exact y; rw [hz] at z; cases z
    clear k3_0
    refine r_if_eq hC (tgt := 29) dX10_part_10 (by decide) (fun c4 => ?_) (fun c4 => ?_)
    rotate_left
    · exfalso; omega
    refine r_aload_n hC dX10_part_29 0 rfl ?_
    refine r_iconst hC (v := (1)) dX10_part_30 (by decide) (by decide) (fun x5_ e5 t5 => ?_)
    refine r_callV hC (As := [.int x5_]) (rest := []) (ci := 10) (c_X10_refused g (xL X) K len I2 J R hs2 a0 ka0 x5_) mT_5_85 mT_1_10 mT_5_82 mT_5_84 mP_48 okX10_refused ⟨by decide, by decide⟩ rfl (by show kO (K a0) = _; rw [ka0]; rfl) rfl rfl (Nat.le_of_ble_eq_true rfl) ⟨by decide, by decide⟩ dX10_part_31 (aI1 (F := fun st M => P g X 5 34 [(0, .ref a0), (1, .int x1), (2, .int x2), (3, .int x3)] st _ _ M) (M := (K, len, I2, J, R)) fun x6_ I6 h6 => ?_)
    obtain ⟨hs6, hf6, k6_0, k6_1, k6_2⟩ := h6
    show P g X 5 34 [(0, .ref a0), (1, .int x1), (2, .int x2), (3, .int x3)] [.int x6_] _ _ (K, len, I6, J, R)
    have hF6 : Fr K [(11, 0), (11, 1), (11, 2), (11, 19), (85, 999), (86, 999), (87, 999), (88, 999)] I I6 := hF2.trans hf6 rfl rfl
    exact r_iret hC hQ hlk hr rfl (by decide) (by decide) dX10_part_34 ⟨_, _, rfl, rfl, ⟨hs6, hF6, (by first | exact Or.inl ⟨hz, by omega⟩ | exact Or.inr ⟨hm, hbm, Or.inr ⟨by omega, by omega⟩⟩ | exact Or.inr ⟨hm, hbm, Or.inl ⟨by omega, (congrArg Int32.toInt k6_0).trans (by first | (rw [if_neg (by omega)]; omega) | (rw [if_pos (by omega)]; omega))⟩⟩), (by omega)⟩⟩
  · obtain ⟨S0, eS0⟩ : ∃ z : Int32, z = I hm 7 := ⟨_, rfl⟩
    have fS0 : S0.toInt = (I hm 7).toInt := by rw [eS0]
    have rS0 := hs.rng khm rfl eS0
    have mc := hmx hm hbm
    obtain ⟨⟨hJ, hR6, hD7⟩, rwm, ⟨hd1, hd2, hd3, hd4, hd5, hd7, hd8, hd9⟩, -⟩ := id mc
    have hcx := CM_x hs khm
    have b5 := hs.rng khm (k := 3) rfl (x := I hm 3) rfl
    have b7 := hs.rng khm (k := 7) rfl (x := I hm 7) rfl
    have b8 := hs.rng khm (k := 8) rfl (x := I hm 8) rfl
    have b20 := hs.rng ka0 (k := 20) rfl (x := I a0 20) rfl
    refine r_aload_n hC dX10_part_0 0 rfl ?_
    refine r_iconst hC (v := (0)) dX10_part_1 (by decide) (by decide) (fun x7_ e7 t7 => ?_)
    refine r_puti hC 0 (ci := 10) rfl u10_in tyX10_ok nmX10 (by decide) mT_4_235 rfl rfl rfl dX10_part_2 ka0 rfl rfl (fun I8 eI8 => ?_)
    have hs8 := hs.put0 eI8 ka0 rfl rfl rfl (by decide)
    have hF8 := hF.put eI8 ka0 rfl
    refine r_aload_n hC dX10_part_5 0 rfl ?_
    refine r_iload_n hC dX10_part_6 1 rfl ?_
    refine r_callV hC (As := [.int x1]) (rest := []) (ci := 10) (f_X10_isStory g (xL X) K len I8 J R hs8 a0 ka0 x1) mT_6_119 mT_1_10 mT_6_116 mT_6_118 mP_71 okX10_isStory ⟨by decide, by decide⟩ rfl (by show kO (K a0) = _; rw [ka0]; rfl) rfl rfl (Nat.le_of_ble_eq_true rfl) ⟨by decide, by decide⟩ dX10_part_7 (aI0 (F := fun st M => P g X 5 10 [(0, .ref a0), (1, .int x1), (2, .int x2), (3, .int x3)] st _ _ M) (M := (K, len, I8, J, R)) fun x9_ h9 => ?_)
    have k9_0 := h9
    clear h9
    show P g X 5 10 [(0, .ref a0), (1, .int x1), (2, .int x2), (3, .int x3)] [.int x9_] _ _ (K, len, I8, J, R)
    have kq9 : x9_.toInt = 1 ∧ (0 ≤ x1.toInt ∧ x1.toInt < D 0 7) ∨ x9_.toInt = 0 ∧ ¬ (0 ≤ x1.toInt ∧ x1.toInt < D 0 7) := by rcases k9_0 with ⟨z, -⟩ | ⟨hm9, z, y⟩ <;> rw [hbm] at z <;> cases z; rw [show (I8 hm 7).toInt = _ from (mc.mv hs ka0 khm hF8 rfl).2.2.1.2.2.2.2.2.1] at y; exact y
    clear k9_0
    refine r_if_eq hC (tgt := 29) dX10_part_10 (by decide) (fun c10 => ?_) (fun c10 => ?_)
    · refine r_aload_n hC dX10_part_29 0 rfl ?_
      refine r_iconst hC (v := (1)) dX10_part_30 (by decide) (by decide) (fun x11_ e11 t11 => ?_)
      refine r_callV hC (As := [.int x11_]) (rest := []) (ci := 10) (c_X10_refused g (xL X) K len I8 J R hs8 a0 ka0 x11_) mT_5_85 mT_1_10 mT_5_82 mT_5_84 mP_48 okX10_refused ⟨by decide, by decide⟩ rfl (by show kO (K a0) = _; rw [ka0]; rfl) rfl rfl (Nat.le_of_ble_eq_true rfl) ⟨by decide, by decide⟩ dX10_part_31 (aI1 (F := fun st M => P g X 5 34 [(0, .ref a0), (1, .int x1), (2, .int x2), (3, .int x3)] st _ _ M) (M := (K, len, I8, J, R)) fun x12_ I12 h12 => ?_)
      obtain ⟨hs12, hf12, k12_0, k12_1, k12_2⟩ := h12
      show P g X 5 34 [(0, .ref a0), (1, .int x1), (2, .int x2), (3, .int x3)] [.int x12_] _ _ (K, len, I12, J, R)
      have hF12 : Fr K [(11, 0), (11, 1), (11, 2), (11, 19), (85, 999), (86, 999), (87, 999), (88, 999)] I I12 := hF8.trans hf12 rfl rfl
      exact r_iret hC hQ hlk hr rfl (by decide) (by decide) dX10_part_34 ⟨_, _, rfl, rfl, ⟨hs12, hF12, (by first | exact Or.inl ⟨hz, by omega⟩ | exact Or.inr ⟨hm, hbm, Or.inr ⟨by omega, by omega⟩⟩ | exact Or.inr ⟨hm, hbm, Or.inl ⟨by omega, (congrArg Int32.toInt k12_0).trans (by first | (rw [if_neg (by omega)]; omega) | (rw [if_pos (by omega)]; omega))⟩⟩), (by omega)⟩⟩
    · refine r_aload_n hC dX10_part_13 0 rfl ?_
      refine r_iload_n hC dX10_part_14 2 rfl ?_
      refine r_callV hC (As := [.int x2]) (rest := []) (ci := 10) (f_X10_isPeg g (xL X) K len I8 J R hs8 a0 ka0 x2) mT_6_123 mT_1_10 mT_6_120 mT_6_122 mP_72 okX10_isPeg ⟨by decide, by decide⟩ rfl (by show kO (K a0) = _; rw [ka0]; rfl) rfl rfl (Nat.le_of_ble_eq_true rfl) ⟨by decide, by decide⟩ dX10_part_15 (aI0 (F := fun st M => P g X 5 18 [(0, .ref a0), (1, .int x1), (2, .int x2), (3, .int x3)] st _ _ M) (M := (K, len, I8, J, R)) fun x13_ h13 => ?_)
      have k13_0 := h13
      clear h13
      show P g X 5 18 [(0, .ref a0), (1, .int x1), (2, .int x2), (3, .int x3)] [.int x13_] _ _ (K, len, I8, J, R)
      have kq13 : x13_.toInt = 1 ∧ (0 ≤ x2.toInt ∧ x2.toInt < D 0 5) ∨ x13_.toInt = 0 ∧ ¬ (0 ≤ x2.toInt ∧ x2.toInt < D 0 5) := by rcases k13_0 with ⟨z, -⟩ | ⟨hm9, z, y⟩ <;> rw [hbm] at z <;> cases z; rw [show (I8 hm 3).toInt = _ from (mc.mv hs ka0 khm hF8 rfl).2.2.1.2.2.2.2.1] at y; exact y
      clear k13_0
      refine r_if_eq hC (tgt := 29) dX10_part_18 (by decide) (fun c14 => ?_) (fun c14 => ?_)
      · refine r_aload_n hC dX10_part_29 0 rfl ?_
        refine r_iconst hC (v := (1)) dX10_part_30 (by decide) (by decide) (fun x15_ e15 t15 => ?_)
        refine r_callV hC (As := [.int x15_]) (rest := []) (ci := 10) (c_X10_refused g (xL X) K len I8 J R hs8 a0 ka0 x15_) mT_5_85 mT_1_10 mT_5_82 mT_5_84 mP_48 okX10_refused ⟨by decide, by decide⟩ rfl (by show kO (K a0) = _; rw [ka0]; rfl) rfl rfl (Nat.le_of_ble_eq_true rfl) ⟨by decide, by decide⟩ dX10_part_31 (aI1 (F := fun st M => P g X 5 34 [(0, .ref a0), (1, .int x1), (2, .int x2), (3, .int x3)] st _ _ M) (M := (K, len, I8, J, R)) fun x16_ I16 h16 => ?_)
        obtain ⟨hs16, hf16, k16_0, k16_1, k16_2⟩ := h16
        show P g X 5 34 [(0, .ref a0), (1, .int x1), (2, .int x2), (3, .int x3)] [.int x16_] _ _ (K, len, I16, J, R)
        have hF16 : Fr K [(11, 0), (11, 1), (11, 2), (11, 19), (85, 999), (86, 999), (87, 999), (88, 999)] I I16 := hF8.trans hf16 rfl rfl
        exact r_iret hC hQ hlk hr rfl (by decide) (by decide) dX10_part_34 ⟨_, _, rfl, rfl, ⟨hs16, hF16, (by first | exact Or.inl ⟨hz, by omega⟩ | exact Or.inr ⟨hm, hbm, Or.inr ⟨by omega, by omega⟩⟩ | exact Or.inr ⟨hm, hbm, Or.inl ⟨by omega, (congrArg Int32.toInt k16_0).trans (by first | (rw [if_neg (by omega)]; omega) | (rw [if_pos (by omega)]; omega))⟩⟩), (by omega)⟩⟩
      · refine r_aload_n hC dX10_part_21 0 rfl ?_
        refine r_iload_n hC dX10_part_22 3 rfl ?_
        refine r_callV hC (As := [.int x3]) (rest := []) (ci := 10) (f_X10_isDay g (xL X) K len I8 J R hs8 a0 ka0 x3) mT_6_95 mT_1_10 mT_6_92 mT_6_94 mP_68 okX10_isDay ⟨by decide, by decide⟩ rfl (by show kO (K a0) = _; rw [ka0]; rfl) rfl rfl (Nat.le_of_ble_eq_true rfl) ⟨by decide, by decide⟩ dX10_part_23 (aI0 (F := fun st M => P g X 5 26 [(0, .ref a0), (1, .int x1), (2, .int x2), (3, .int x3)] st _ _ M) (M := (K, len, I8, J, R)) fun x17_ h17 => ?_)
        have k17_0 := h17
        clear h17
        show P g X 5 26 [(0, .ref a0), (1, .int x1), (2, .int x2), (3, .int x3)] [.int x17_] _ _ (K, len, I8, J, R)
        have kq17 : x17_.toInt = 1 ∧ (0 ≤ x3.toInt ∧ x3.toInt ≤ 59) ∨ x17_.toInt = 0 ∧ ¬ (0 ≤ x3.toInt ∧ x3.toInt ≤ 59) := by rcases k17_0 with ⟨z, -⟩ | ⟨hm9, z, y⟩ <;> rw [hbm] at z <;> cases z; exact y
        clear k17_0
        refine r_if_ne hC (tgt := 35) dX10_part_26 (by decide) (fun c18 => ?_) (fun c18 => ?_)
        · refine r_aload_n hC dX10_part_35 0 rfl ?_
          refine r_getr hC 3 (ci := 10) rfl u10_in (by decide) mT_4_238 dX10_part_36 ka0 rfl rfl hbm ?_
          obtain ⟨kd19, mo19, hb19, hk19, hn19, hB19, hK19, hN19⟩ := hs8.2.2.1 hm khm
          refine r_getrN hC 17 (ci := 9) rfl u9_in (by decide) nF_17 dX10_part_39 khm rfl rfl hb19 ?_
          refine r_iload_n hC dX10_part_42 1 rfl ?_
          refine x_iaload hC hk19 hn19 (by omega) (kOb (by omega)) (kAb (by omega)) dX10_part_43 (by omega) (by omega) (fun x20_ e20 => ?_)
          have q20 : x20_.toInt = D 7 x1.toInt.toNat := by rw [e20, clx (i := x1) rfl (by omega)]; exact (mc.mv hs ka0 khm hF8 rfl).hrw (r := 7) (by decide) (by decide) hb19 (by rw [cnt_7]; omega) (fun h9 => absurd h9 (by decide))
          have jb20 : 0 ≤ D 7 x1.toInt.toNat ∧ D 7 x1.toInt.toNat ≤ 5 := hJ.2.2.2.1 7 _ (by decide) (by decide) (by decide)
          refine r_iconst hC (v := (5)) dX10_part_44 (by decide) (by decide) (fun x21_ e21 t21 => ?_)
          refine r_icmp_eq hC (tgt := 54) dX10_part_45 (by decide) (fun c22 => ?_) (fun c22 => ?_)
          · refine r_aload_n hC dX10_part_54 0 rfl ?_
            refine r_iload_n hC dX10_part_55 1 rfl ?_
            have hv23 : I8 hm 7 = S0 := (Eq.trans (up2_kk eI8 ka0 khm (by decide)) eS0.symm)
            refine r_callV hC (As := [.int x1]) (rest := []) (ci := 10) (f_X10_runsAsTold g (xL X) K len I8 J R hs8 a0 ka0 x1 hm hbm khm (by rw [hv23]; omega) lr hlr klr llr sr hsr ksr lsr ir hir kir lir wr hwr kwr lwr D E (mc.mv hs ka0 khm hF8 rfl) (by omega) (by omega)) mT_6_127 mT_1_10 mT_6_124 mT_6_126 mP_73 okX10_runsAsTold ⟨by decide, by decide⟩ rfl (by show kO (K a0) = _; rw [ka0]; rfl) rfl rfl (Nat.le_of_ble_eq_true rfl) ⟨by decide, by decide⟩ dX10_part_56 (aV1 (F := fun st M => P g X 5 59 [(0, .ref a0), (1, .int x1), (2, .int x2), (3, .int x3)] st _ _ M) (M := (K, len, I8, J, R)) fun I24 h24 => ?_)
            obtain ⟨hs24, hf24, k24_0⟩ := h24
            show P g X 5 59 [(0, .ref a0), (1, .int x1), (2, .int x2), (3, .int x3)] [] _ _ (K, len, I24, J, R)
            have hF24 : Fr K [(11, 0), (11, 1), (11, 2), (11, 19), (85, 999), (86, 999), (87, 999), (88, 999)] I I24 := hF8.trans hf24 rfl rfl
            refine r_aload_n hC dX10_part_59 0 rfl ?_
            refine r_getr hC 17 (ci := 10) rfl u10_in (by decide) mT_5_12 dX10_part_60 ka0 rfl rfl hir ?_
            refine r_bipush hC (v := (60)) dX10_part_63 (by decide) (by decide) (fun x25_ e25 t25 => ?_)
            refine r_iload_n hC dX10_part_65 2 rfl ?_
            refine r_imul hC dX10_part_66 (fun x26_ e26 => ?_)
            try have t26 : x26_.toInt = (60) * x2.toInt := by rw [e26]; exact ti_mul (by omega) rfl (by omega) (by omega)
            refine r_iload_n hC dX10_part_67 3 rfl ?_
            refine r_iadd hC dX10_part_68 (fun x27_ e27 => ?_)
            try have t27 : x27_.toInt = x26_.toInt + x3.toInt := by rw [e27]; exact ti_add (by omega) (by omega)
            refine x_iaload hC kir lir (by decide) rfl rfl dX10_part_69 (by omega) (by omega) (fun x28_ e28 => ?_)
            have q28 : x28_.toInt = NV D x1.toInt.toNat (Ad D x1.toInt.toNat (LP1 D) 1) x3.toInt.toNat x2.toInt.toNat := by rw [e28, clx (i := x27_) rfl (by omega), show x27_.toInt.toNat = 60 * x2.toInt.toNat + x3.toInt.toNat by omega]; exact k24_0.inc (by omega) (by omega)
            have jb28 := mc.nvb (s := x1.toInt.toNat) (show ((x1.toInt.toNat : Nat) : Int) < D 0 7 by omega) (w2 := 1) x3.toInt.toNat x2.toInt.toNat (by omega)
            refine r_istore hC (lv' := [(4, .int x28_), (0, .ref a0), (1, .int x1), (2, .int x2), (3, .int x3)]) dX10_part_70 (by decide) rfl ?_
            refine r_aload_n hC dX10_part_72 1 rfl ?_
            refine r_iload_n hC dX10_part_73 2 rfl ?_
            refine r_iconst hC (v := (0)) dX10_part_74 (by decide) (by decide) (fun x29_ e29 t29 => ?_)
            obtain ⟨rr, hrr, krr, lrr⟩ := hs.row khm 15 74 60 (by decide) (by decide)
            have hv30 : I24 hm 7 = S0 := (Eq.trans (hf24.get khm rfl) (Eq.trans (up2_kk eI8 ka0 khm (by decide)) eS0.symm))
            refine r_callV hC (As := [.int x1, .int x29_]) (rest := []) (ci := 10) (f_X10_runs g (xL X) K len I24 J R hs24 a0 ka0 x1 x29_ hm hbm khm (by rw [hv30]; omega) sr hsr ksr lsr ir hir kir lir wr hwr kwr lwr lr hlr klr llr (LP1 D) (fun j hj => ⟨k24_0.1 j hj, LP1_b hJ j⟩) (LP1_b hJ) D hJ hR6 (rwm.mv hcx qM_big hF24 rfl) (by rw [hF24.get khm rfl]; exact hd1) (by rw [hF24.get khm rfl]; exact hd5) (by rw [hF24.get khm rfl]; exact hd7) rr hrr krr lrr (fun j hj => ⟨by rw [hF24.get krr rfl]; exact mc.hrw (r := 5) (by decide) (by decide) hrr (by show (j : Int) < 60; omega) (fun h9 => absurd h9 (by decide)), hJ.rn hR6 j⟩) (by omega) (by omega)) mT_6_131 mT_1_10 mT_6_128 mT_6_130 mP_74 okX10_runs ⟨by decide, by decide⟩ rfl (by show kO (K a0) = _; rw [ka0]; rfl) rfl rfl (Nat.le_of_ble_eq_true rfl) ⟨by decide, by decide⟩ dX10_part_75 (aV1 (F := fun st M => P g X 5 78 [(4, .int x28_), (0, .ref a0), (1, .int x1), (2, .int x2), (3, .int x3)] st _ _ M) (M := (K, len, I24, J, R)) fun I31 h31 => ?_)
            obtain ⟨hs31, hf31, k31_0, k31_1⟩ := h31
            show P g X 5 78 [(4, .int x28_), (0, .ref a0), (1, .int x1), (2, .int x2), (3, .int x3)] [] _ _ (K, len, I31, J, R)
            have hF31 : Fr K [(11, 0), (11, 1), (11, 2), (11, 19), (85, 999), (86, 999), (87, 999), (88, 999)] I I31 := hF24.trans hf31 rfl rfl
            have j0 := k31_0
            have j1 := k31_1
            rw [show x29_.toInt = 0 by omega] at j0 j1
            have mo2 : MO D x1.toInt.toNat (LP1 D) 0 a0 lr sr ir wr I31 := ⟨fun j hj => by rw [hf31.get klr rfl]; exact k24_0.1 j hj, j0, j1⟩
            refine r_aload_n hC dX10_part_78 1 rfl ?_
            refine r_iload hC dX10_part_79 0 rfl ?_
            refine r_aload_n hC dX10_part_81 1 rfl ?_
            refine r_getr hC 17 (ci := 10) rfl u10_in (by decide) mT_5_12 dX10_part_82 ka0 rfl rfl hir ?_
            refine r_bipush hC (v := (60)) dX10_part_85 (by decide) (by decide) (fun x32_ e32 t32 => ?_)
            refine r_iload_n hC dX10_part_87 3 rfl ?_
            refine r_imul hC dX10_part_88 (fun x33_ e33 => ?_)
            try have t33 : x33_.toInt = (60) * x2.toInt := by rw [e33]; exact ti_mul (by omega) rfl (by omega) (by omega)
            refine r_iload_n hC dX10_part_89 4 rfl ?_
            refine r_iadd hC dX10_part_90 (fun x34_ e34 => ?_)
            try have t34 : x34_.toInt = x33_.toInt + x3.toInt := by rw [e34]; exact ti_add (by omega) (by omega)
            refine x_iaload hC kir lir (by decide) rfl rfl dX10_part_91 (by omega) (by omega) (fun x35_ e35 => ?_)
            have q35 : x35_.toInt = NV D x1.toInt.toNat (Ad D x1.toInt.toNat (LP1 D) 0) x3.toInt.toNat x2.toInt.toNat := by rw [e35, clx (i := x34_) rfl (by omega), show x34_.toInt.toNat = 60 * x2.toInt.toNat + x3.toInt.toNat by omega]; exact mo2.inc (by omega) (by omega)
            have jb35 := mc.nvb (s := x1.toInt.toNat) (show ((x1.toInt.toNat : Nat) : Int) < D 0 7 by omega) (w2 := 0) x3.toInt.toNat x2.toInt.toNat (by omega)
            refine r_isub hC dX10_part_92 (fun x36_ e36 => ?_)
            try have t36 : x36_.toInt = x28_.toInt - x35_.toInt := by rw [e36]; exact ti_sub (by omega) (by omega)
            refine r_callV hC (As := [.int x36_]) (rest := []) (ci := 10) (c_X10_done g (xL X) K len I31 J R hs31 a0 ka0 x36_) mT_6_79 mT_1_10 mT_6_76 mT_6_78 mP_67 okX10_done ⟨by decide, by decide⟩ rfl (by show kO (K a0) = _; rw [ka0]; rfl) rfl rfl (Nat.le_of_ble_eq_true rfl) ⟨by decide, by decide⟩ dX10_part_93 (aI1 (F := fun st M => P g X 5 96 [(4, .int x28_), (0, .ref a0), (1, .int x1), (2, .int x2), (3, .int x3)] st _ _ M) (M := (K, len, I31, J, R)) fun x37_ I37 h37 => ?_)
            obtain ⟨hs37, hf37, k37_0, k37_1, k37_2⟩ := h37
            show P g X 5 96 [(4, .int x28_), (0, .ref a0), (1, .int x1), (2, .int x2), (3, .int x3)] [.int x37_] _ _ (K, len, I37, J, R)
            have hF37 : Fr K [(11, 0), (11, 1), (11, 2), (11, 19), (85, 999), (86, 999), (87, 999), (88, 999)] I I37 := hF31.trans hf37 rfl rfl
            have mo37 := mo2.mv ka0 klr ksr kir kwr hf37 rfl
            exact r_iret hC hQ hlk hr rfl (by decide) (by decide) dX10_part_96 ⟨_, _, rfl, rfl, ⟨hs37, hF37, (by first | exact Or.inl ⟨hz, by omega⟩ | exact Or.inr ⟨hm, hbm, Or.inr ⟨by omega, by omega⟩⟩ | exact Or.inr ⟨hm, hbm, Or.inl ⟨by omega, (congrArg Int32.toInt k37_0).trans (by first | (rw [if_neg (by omega)]; omega) | (rw [if_pos (by omega)]; omega))⟩⟩), (by omega)⟩⟩
          · refine r_aload_n hC dX10_part_48 0 rfl ?_
            refine r_iconst hC (v := (0)) dX10_part_49 (by decide) (by decide) (fun x38_ e38 t38 => ?_)
            refine r_callV hC (As := [.int x38_]) (rest := []) (ci := 10) (c_X10_done g (xL X) K len I8 J R hs8 a0 ka0 x38_) mT_6_79 mT_1_10 mT_6_76 mT_6_78 mP_67 okX10_done ⟨by decide, by decide⟩ rfl (by show kO (K a0) = _; rw [ka0]; rfl) rfl rfl (Nat.le_of_ble_eq_true rfl) ⟨by decide, by decide⟩ dX10_part_50 (aI1 (F := fun st M => P g X 5 53 [(0, .ref a0), (1, .int x1), (2, .int x2), (3, .int x3)] st _ _ M) (M := (K, len, I8, J, R)) fun x39_ I39 h39 => ?_)
            obtain ⟨hs39, hf39, k39_0, k39_1, k39_2⟩ := h39
            show P g X 5 53 [(0, .ref a0), (1, .int x1), (2, .int x2), (3, .int x3)] [.int x39_] _ _ (K, len, I39, J, R)
            have hF39 : Fr K [(11, 0), (11, 1), (11, 2), (11, 19), (85, 999), (86, 999), (87, 999), (88, 999)] I I39 := hF8.trans hf39 rfl rfl
            exact r_iret hC hQ hlk hr rfl (by decide) (by decide) dX10_part_53 ⟨_, _, rfl, rfl, ⟨hs39, hF39, (by first | exact Or.inl ⟨hz, by omega⟩ | exact Or.inr ⟨hm, hbm, Or.inr ⟨by omega, by omega⟩⟩ | exact Or.inr ⟨hm, hbm, Or.inl ⟨by omega, (congrArg Int32.toInt k39_0).trans (by first | (rw [if_neg (by omega)]; omega) | (rw [if_pos (by omega)]; omega))⟩⟩), (by omega)⟩⟩
        · refine r_aload_n hC dX10_part_29 0 rfl ?_
          refine r_iconst hC (v := (1)) dX10_part_30 (by decide) (by decide) (fun x40_ e40 t40 => ?_)
          refine r_callV hC (As := [.int x40_]) (rest := []) (ci := 10) (c_X10_refused g (xL X) K len I8 J R hs8 a0 ka0 x40_) mT_5_85 mT_1_10 mT_5_82 mT_5_84 mP_48 okX10_refused ⟨by decide, by decide⟩ rfl (by show kO (K a0) = _; rw [ka0]; rfl) rfl rfl (Nat.le_of_ble_eq_true rfl) ⟨by decide, by decide⟩ dX10_part_31 (aI1 (F := fun st M => P g X 5 34 [(0, .ref a0), (1, .int x1), (2, .int x2), (3, .int x3)] st _ _ M) (M := (K, len, I8, J, R)) fun x41_ I41 h41 => ?_)
          obtain ⟨hs41, hf41, k41_0, k41_1, k41_2⟩ := h41
          show P g X 5 34 [(0, .ref a0), (1, .int x1), (2, .int x2), (3, .int x3)] [.int x41_] _ _ (K, len, I41, J, R)
          have hF41 : Fr K [(11, 0), (11, 1), (11, 2), (11, 19), (85, 999), (86, 999), (87, 999), (88, 999)] I I41 := hF8.trans hf41 rfl rfl
          exact r_iret hC hQ hlk hr rfl (by decide) (by decide) dX10_part_34 ⟨_, _, rfl, rfl, ⟨hs41, hF41, (by first | exact Or.inl ⟨hz, by omega⟩ | exact Or.inr ⟨hm, hbm, Or.inr ⟨by omega, by omega⟩⟩ | exact Or.inr ⟨hm, hbm, Or.inl ⟨by omega, (congrArg Int32.toInt k41_0).trans (by first | (rw [if_neg (by omega)]; omega) | (rw [if_pos (by omega)]; omega))⟩⟩), (by omega)⟩⟩
