set_option maxHeartbeats 4000000 in
set_option maxRecDepth 100000 in
theorem f_X6_faulty (g : GG) (l : Launch) (K len : Nat → Nat) (I : Nat → Nat → Int32) (J : Nat → Nat → Int64) (R : Nat → Nat → Option Nat) (hs : Sf K len I R) (a0 : Nat) (ka0 : K a0 = 7) (x1 : Int32) (tk : Nat) (htk : R a0 0 = some tk) (ktk : K tk = 8) (tp : Nat) (bt : Nat) (hbt : R tk 0 = some tp) (hkt : K tp = 6) (hbb : R tp 0 = some bt) (hkb : K bt = 40) (nbt : len bt = 900) (B : Nat → Int) (n : Nat) (hB : BT B n bt I) (hn : n ≤ 900) (p : Nat) (hp : p ≤ n) (tkc : TkC B n tk p I J) : Ct g l yX6_faulty cX6_faulty 2 (Option.some Jvm.ClassFile.FieldType.boolean) rmX6_faulty [.ref a0, .int x1] (K, len, I, J, R) (pI1 (K, len, I, J, R) (fun r I' => Sf K len I' R ∧ Fr K [(7, 5), (7, 6)] I I' ∧ (r.toInt = 0) ∧ ((I' a0 5).toInt = x1.toInt) ∧ ((I' a0 6).toInt = pl B n p))) := by
  refine Ct_intro (by decide +kernel) (Nat.le_of_ble_eq_true rfl) (fun X hC hL hKK hNm hr hlk hQ => ?_)
  subst hL
  have hC : Cx g X cX6_faulty "HillTap$Teller" 2 rmX6_faulty := hC
  show P g X 2 0 [(0, .ref a0), (1, .int x1)] [] 0 0 (K, len, I, J, R)
  have hF : Fr K [(7, 5), (7, 6)] I I := Fr.refl
  have tkc9 := tkc
  obtain ⟨tk3, tk4, tk2, tk1, tk5⟩ := tkc9
  have b_x1 := ti_rng x1
  obtain ⟨Kp, eKp⟩ : ∃ z : Int32, z = I tk 4 := ⟨_, rfl⟩
  have fKp : Kp.toInt = (I tk 4).toInt := by rw [eKp]
  have rKp := hs.rng ktk rfl eKp
  refine r_aload_n hC dX6_faulty_0 0 rfl ?_
  refine r_iload_n hC dX6_faulty_1 1 rfl ?_
  refine r_puti hC 5 (ci := 6) rfl u6_in tyX6_ok nmX6 (by decide) mT_1_86 rfl rfl rfl dX6_faulty_2 ka0 rfl rfl (fun I1 eI1 => ?_)
  have hs1 := hs.put0 eI1 ka0 rfl rfl rfl (by decide)
  have hF1 := hF.put eI1 ka0 rfl
  have tkp1 := tkc.put eI1 ka0 ktk (by decide)
  refine r_aload_n hC dX6_faulty_5 0 rfl ?_
  refine r_aload_n hC dX6_faulty_6 0 rfl ?_
  refine r_getr hC 0 (ci := 6) rfl u6_in (by decide) mT_1_81 dX6_faulty_7 ka0 rfl rfl htk ?_
  refine r_geti hC 4 (ci := 7) rfl u7_in (by decide) mT_1_64 dX6_faulty_10 ktk rfl rfl (fun x2_ e2 => ?_)
  have r2 := hs1.rng ktk rfl e2
  have f2 : x2_.toInt = (I1 tk 4).toInt := by rw [e2]
  have w2 : x2_ = Kp := by rw [e2]; exact (Eq.trans (up2_kk eI1 ka0 ktk (by decide)) eKp.symm)
  have wt2 : x2_.toInt = Kp.toInt := by rw [w2]
  refine r_puti hC 6 (ci := 6) rfl u6_in tyX6_ok nmX6 (by decide) mT_1_88 rfl rfl rfl dX6_faulty_13 ka0 rfl rfl (fun I3 eI3 => ?_)
  have hs3 := hs1.put0 eI3 ka0 rfl rfl rfl (by decide)
  have hF3 := hF1.put eI3 ka0 rfl
  have tkp3 := tkp1.put eI3 ka0 ktk (by decide)
  refine r_iconst hC (v := (0)) dX6_faulty_16 (by decide) (by decide) (fun x4_ e4 t4 => ?_)
  have hv5 : I3 a0 5 = x1 := (Eq.trans (up2_at (Or.inr (by decide)) eI3) (by rw [eI1]; exact up2_self _ _ _ _))
  have hv5t : (I3 a0 5).toInt = x1.toInt := congrArg Int32.toInt hv5
  have hv6 : I3 a0 6 = x2_ := (by rw [eI3]; exact up2_self _ _ _ _)
  have hv6t : (I3 a0 6).toInt = x2_.toInt := congrArg Int32.toInt hv6
  exact r_iret hC hQ hlk hr (by rw [e4]; rfl) (by decide) (by decide) dX6_faulty_17 ⟨_, _, rfl, rfl, ⟨hs3, hF3, (by omega), (by omega), (by omega)⟩⟩
set_option maxHeartbeats 4000000 in
set_option maxRecDepth 100000 in
theorem f_X6_takeWhole (g : GG) (l : Launch) (K len : Nat → Nat) (I : Nat → Nat → Int32) (J : Nat → Nat → Int64) (R : Nat → Nat → Option Nat) (hs : Sf K len I R) (a0 : Nat) (ka0 : K a0 = 7) (x1 : Int32) (x2 : Int32) (tk : Nat) (htk : R a0 0 = some tk) (ktk : K tk = 8) (tp : Nat) (bt : Nat) (hbt : R tk 0 = some tp) (hkt : K tp = 6) (hbb : R tp 0 = some bt) (hkb : K bt = 40) (nbt : len bt = 900) (B : Nat → Int) (n : Nat) (hB : BT B n bt I) (hn : n ≤ 900) (p : Nat) (hp : p ≤ n) (tkc : TkC B n tk p I J) : Ct g l yX6_takeWhole cX6_takeWhole 3 (Option.some Jvm.ClassFile.FieldType.boolean) rmX6_takeWhole [.ref a0, .int x1, .int x2] (K, len, I, J, R) (pI2 (K, len, I, J, R) (fun r I' J' => Sf K len I' R ∧ Fr K [(7, 4), (7, 5), (7, 6), (8, 2), (8, 3), (8, 4)] I I' ∧ Fr K [(8, 5)] J J' ∧ (0 ≤ r.toInt) ∧ (r.toInt ≤ 1) ∧ (r.toInt ≠ 0 → x1.toInt ≤ (I' a0 4).toInt ∧ (I' a0 4).toInt ≤ x2.toInt) ∧ (r.toInt = 1 ∧ (∃ (v : Int) (p' : Nat), sWhole B n p x1.toInt x2.toInt = .ok (v, p') ∧ p' ≤ n ∧ TkC B n tk p' I' J' ∧ (I' a0 4).toInt = v ∧ I' a0 5 = I a0 5) ∨ r.toInt = 0 ∧ (∃ (kf : Int) (qf : Nat), sWhole B n p x1.toInt x2.toInt = .error (kf, qf) ∧ (I' a0 5).toInt = kf ∧ (I' a0 6).toInt = qf)))) := by
  refine Ct_intro (by decide +kernel) (Nat.le_of_ble_eq_true rfl) (fun X hC hL hKK hNm hr hlk hQ => ?_)
  subst hL
  have hC : Cx g X cX6_takeWhole "HillTap$Teller" 3 rmX6_takeWhole := hC
  show P g X 3 0 [(0, .ref a0), (1, .int x1), (2, .int x2)] [] 0 0 (K, len, I, J, R)
  have hF : Fr K [(7, 4), (7, 5), (7, 6), (8, 2), (8, 3), (8, 4)] I I := Fr.refl
  have hFJ : Fr K [(8, 5)] J J := Fr.refl
  have tkc9 := tkc
  obtain ⟨tk3, tk4, tk2, tk1, tk5⟩ := tkc9
  have b_x1 := ti_rng x1
  have b_x2 := ti_rng x2
  refine r_aload_n hC dX6_takeWhole_0 0 rfl ?_
  refine r_getr hC 0 (ci := 6) rfl u6_in (by decide) mT_1_81 dX6_takeWhole_1 ka0 rfl rfl htk ?_
  refine r_callV hC (As := []) (rest := []) (ci := 7) (f_X7_isWhole g (xL X) K len I J R hs tk ktk B n p tkc) mT_3_7 mT_1_4 mT_3_4 mT_3_5 mT_3_6 okX7_isWhole ⟨by decide, by decide⟩ rfl (by show kO (K tk) = _; rw [ktk]; rfl) rfl rfl (Nat.le_of_ble_eq_true rfl) ⟨by decide, by decide⟩ dX6_takeWhole_4 (aI0 (F := fun st M => P g X 3 7 [(0, .ref a0), (1, .int x1), (2, .int x2)] st _ _ M) (M := (K, len, I, J, R)) fun x1_ h1 => ?_)
  obtain ⟨k1_0, k1_1, k1_2⟩ := h1
  show P g X 3 7 [(0, .ref a0), (1, .int x1), (2, .int x2)] [.int x1_] _ _ (K, len, I, J, R)
  rcases k1_2 with ⟨hr1, hw1⟩ | ⟨hr1, hw1⟩
  · refine r_if_ne hC (tgt := 16) dX6_takeWhole_7 (by decide) (fun c2 => ?_) (fun c2 => ?_)
    rotate_left
    · exfalso; omega
    have hvl : (J tk 5).toInt = vl B n p := tkc.2.2.2.2 (Or.inr (by omega))
    refine r_aload_n hC dX6_takeWhole_16 0 rfl ?_
    refine r_getr hC 0 (ci := 6) rfl u6_in (by decide) mT_1_81 dX6_takeWhole_17 ka0 rfl rfl htk ?_
    refine r_getj hC 5 (ci := 7) rfl u7_in (by decide) mT_1_66 dX6_takeWhole_20 ktk rfl rfl (fun y3_ e3 => ?_)
    have fj3 : y3_.toInt = (J tk 5).toInt := by rw [e3]
    refine r_iload_n hC dX6_takeWhole_23 1 rfl ?_
    refine r_i2l hC dX6_takeWhole_24 (fun y4_ e4 => ?_)
    refine r_lcmp hC dX6_takeWhole_25 (fun x5_ e5 => ?_)
    have qa : 0 ≤ x5_.toInt → x1.toInt ≤ (J tk 5).toInt := by intro h9; subst_vars; have h8 := lgc_ge h9; rwa [Int32.toInt_toInt64] at h8
    have qa2 : x5_.toInt < 0 → (J tk 5).toInt < x1.toInt := by intro h9; subst_vars; have h8 := lgc_lt h9; rwa [Int32.toInt_toInt64] at h8
    refine r_if_lt hC (tgt := 42) dX6_takeWhole_26 (by decide) (fun c6 => ?_) (fun c6 => ?_)
    · refine r_aload_n hC dX6_takeWhole_42 0 rfl ?_
      refine r_iconst hC (v := (4)) dX6_takeWhole_43 (by decide) (by decide) (fun x7_ e7 t7 => ?_)
      refine r_callV hC (As := [.int x7_]) (rest := []) (ci := 6) (f_X6_faulty g (xL X) K len I J R hs a0 ka0 x7_ tk htk ktk tp bt hbt hkt hbb hkb nbt B n (hB.mv hF hkb (fun _ => rfl)) hn p hp tkc) mT_2_233 mT_1_3 mT_2_230 mT_2_232 mP_5 okX6_faulty ⟨by decide, by decide⟩ rfl (by show kO (K a0) = _; rw [ka0]; rfl) rfl rfl (Nat.le_of_ble_eq_true rfl) ⟨by decide, by decide⟩ dX6_takeWhole_44 (aI1 (F := fun st M => P g X 3 47 [(0, .ref a0), (1, .int x1), (2, .int x2)] st _ _ M) (M := (K, len, I, J, R)) fun x8_ I8 h8 => ?_)
      obtain ⟨hs8, hf8, k8_0, k8_1, k8_2⟩ := h8
      show P g X 3 47 [(0, .ref a0), (1, .int x1), (2, .int x2)] [.int x8_] _ _ (K, len, I8, J, R)
      have hF8 : Fr K [(7, 4), (7, 5), (7, 6), (8, 2), (8, 3), (8, 4)] I I8 := hF.trans hf8 rfl rfl
      have tkm8 := tkc.mvI hf8 ktk rfl rfl rfl rfl
      exact r_iret hC hQ hlk hr (nz_b (by omega) (by omega)) (by decide) (by decide) dX6_takeWhole_47 ⟨_, _, _, rfl, rfl, ⟨hs8, hF8, hFJ, (by omega), (by omega), (by first | (intro h9; exfalso; omega) | (intro h9; rw [hv]; omega)), (by first | exact Or.inr ⟨by omega, 1, pl B n p, by unfold sWhole; rw [pif_f (by omega)], by omega, by omega⟩ | exact Or.inr ⟨by omega, 4, pl B n p, by unfold sWhole; rw [pif_t (by omega), pif_t (by omega)], by omega, by omega⟩ | exact Or.inl ⟨by omega, vl B n p, nx B n p, by unfold sWhole; rw [pif_t (by omega), pif_f (by omega)], (nx_le hp).2, tkm8, by omega, NONE⟩)⟩⟩
    · refine r_aload_n hC dX6_takeWhole_29 0 rfl ?_
      refine r_getr hC 0 (ci := 6) rfl u6_in (by decide) mT_1_81 dX6_takeWhole_30 ka0 rfl rfl htk ?_
      refine r_getj hC 5 (ci := 7) rfl u7_in (by decide) mT_1_66 dX6_takeWhole_33 ktk rfl rfl (fun y9_ e9 => ?_)
      have fj9 : y9_.toInt = (J tk 5).toInt := by rw [e9]
      refine r_iload_n hC dX6_takeWhole_36 2 rfl ?_
      refine r_i2l hC dX6_takeWhole_37 (fun y10_ e10 => ?_)
      refine r_lcmp hC dX6_takeWhole_38 (fun x11_ e11 => ?_)
      have qb : x11_.toInt ≤ 0 → (J tk 5).toInt ≤ x2.toInt := by intro h9; subst_vars; have h8 := lgc_le h9; rwa [Int32.toInt_toInt64] at h8
      have qb2 : 0 < x11_.toInt → x2.toInt < (J tk 5).toInt := by intro h9; subst_vars; have h8 := lgc_gt h9; rwa [Int32.toInt_toInt64] at h8
      refine r_if_le hC (tgt := 48) dX6_takeWhole_39 (by decide) (fun c12 => ?_) (fun c12 => ?_)
      · refine r_aload_n hC dX6_takeWhole_48 0 rfl ?_
        refine r_aload_n hC dX6_takeWhole_49 0 rfl ?_
        refine r_getr hC 0 (ci := 6) rfl u6_in (by decide) mT_1_81 dX6_takeWhole_50 ka0 rfl rfl htk ?_
        refine r_getj hC 5 (ci := 7) rfl u7_in (by decide) mT_1_66 dX6_takeWhole_53 ktk rfl rfl (fun y13_ e13 => ?_)
        have fj13 : y13_.toInt = (J tk 5).toInt := by rw [e13]
        refine r_l2i hC dX6_takeWhole_56 (fun x14_ e14 => ?_)
        have h1 : x1.toInt ≤ (J tk 5).toInt := by omega
        have h2 : (J tk 5).toInt ≤ x2.toInt := by omega
        have qc : x14_.toInt = (J tk 5).toInt := by subst_vars; exact l2i_in (by omega) (by omega)
        refine r_puti hC 4 (ci := 6) rfl u6_in tyX6_ok nmX6 (by decide) mT_1_85 rfl rfl rfl dX6_takeWhole_57 ka0 rfl rfl (fun I15 eI15 => ?_)
        have hs15 := hs.put0 eI15 ka0 rfl rfl rfl (by decide)
        have hF15 := hF.put eI15 ka0 rfl
        have fp15 : I15 a0 5 = I a0 5 := (up2_at (Or.inr (by decide)) eI15).trans rfl
        have tkp15 := tkc.put eI15 ka0 ktk (by decide)
        refine r_aload_n hC dX6_takeWhole_60 0 rfl ?_
        refine r_getr hC 0 (ci := 6) rfl u6_in (by decide) mT_1_81 dX6_takeWhole_61 ka0 rfl rfl htk ?_
        refine r_callV hC (As := []) (rest := []) (ci := 7) (f_X7_next g (xL X) K len I15 J R hs15 tk ktk tp bt hbt hkt hbb hkb nbt B n (hB.mv hF15 hkb (fun _ => rfl)) hn (nx B n p) (nx_le hp).2 (tkp15.2.2.1) (tkp15.2.2.2.1)) mT_2_159 mT_1_4 mT_2_234 mT_2_157 mT_2_158 okX7_next ⟨by decide, by decide⟩ rfl (by show kO (K tk) = _; rw [ktk]; rfl) rfl rfl (Nat.le_of_ble_eq_true rfl) ⟨by decide, by decide⟩ dX6_takeWhole_64 (aV2 (F := fun st M => P g X 3 67 [(0, .ref a0), (1, .int x1), (2, .int x2)] st _ _ M) (M := (K, len, I15, J, R)) fun I16 J16 h16 => ?_)
        obtain ⟨hs16, hf16, hfj16, k16_0⟩ := h16
        show P g X 3 67 [(0, .ref a0), (1, .int x1), (2, .int x2)] [] _ _ (K, len, I16, J16, R)
        have hF16 : Fr K [(7, 4), (7, 5), (7, 6), (8, 2), (8, 3), (8, 4)] I I16 := hF15.trans hf16 rfl rfl
        have hFJ16 : Fr K [(8, 5)] J J16 := hFJ.trans hfj16 rfl rfl
        have fp16 : I16 a0 5 = I a0 5 := (hf16.get ka0 rfl).trans fp15
        refine r_iconst hC (v := (1)) dX6_takeWhole_67 (by decide) (by decide) (fun x17_ e17 t17 => ?_)
        have hv : I16 a0 4 = x14_ := (Eq.trans (hf16.get ka0 rfl) (by rw [eI15]; exact up2_self _ _ _ _))
        have hvt : (I16 a0 4).toInt = x14_.toInt := congrArg Int32.toInt hv
        exact r_iret hC hQ hlk hr (by rw [e17]; rfl) (by decide) (by decide) dX6_takeWhole_68 ⟨_, _, _, rfl, rfl, ⟨hs16, hF16, hFJ16, (by omega), (by omega), (by first | (intro h9; exfalso; omega) | (intro h9; rw [hv]; omega)), (by first | exact Or.inr ⟨by omega, 1, pl B n p, by unfold sWhole; rw [pif_f (by omega)], by omega, by omega⟩ | exact Or.inr ⟨by omega, 4, pl B n p, by unfold sWhole; rw [pif_t (by omega), pif_t (by omega)], by omega, by omega⟩ | exact Or.inl ⟨by omega, vl B n p, nx B n p, by unfold sWhole; rw [pif_t (by omega), pif_f (by omega)], (nx_le hp).2, k16_0, by omega, fp16⟩)⟩⟩
      · refine r_aload_n hC dX6_takeWhole_42 0 rfl ?_
        refine r_iconst hC (v := (4)) dX6_takeWhole_43 (by decide) (by decide) (fun x18_ e18 t18 => ?_)
        refine r_callV hC (As := [.int x18_]) (rest := []) (ci := 6) (f_X6_faulty g (xL X) K len I J R hs a0 ka0 x18_ tk htk ktk tp bt hbt hkt hbb hkb nbt B n (hB.mv hF hkb (fun _ => rfl)) hn p hp tkc) mT_2_233 mT_1_3 mT_2_230 mT_2_232 mP_5 okX6_faulty ⟨by decide, by decide⟩ rfl (by show kO (K a0) = _; rw [ka0]; rfl) rfl rfl (Nat.le_of_ble_eq_true rfl) ⟨by decide, by decide⟩ dX6_takeWhole_44 (aI1 (F := fun st M => P g X 3 47 [(0, .ref a0), (1, .int x1), (2, .int x2)] st _ _ M) (M := (K, len, I, J, R)) fun x19_ I19 h19 => ?_)
        obtain ⟨hs19, hf19, k19_0, k19_1, k19_2⟩ := h19
        show P g X 3 47 [(0, .ref a0), (1, .int x1), (2, .int x2)] [.int x19_] _ _ (K, len, I19, J, R)
        have hF19 : Fr K [(7, 4), (7, 5), (7, 6), (8, 2), (8, 3), (8, 4)] I I19 := hF.trans hf19 rfl rfl
        have tkm19 := tkc.mvI hf19 ktk rfl rfl rfl rfl
        exact r_iret hC hQ hlk hr (nz_b (by omega) (by omega)) (by decide) (by decide) dX6_takeWhole_47 ⟨_, _, _, rfl, rfl, ⟨hs19, hF19, hFJ, (by omega), (by omega), (by first | (intro h9; exfalso; omega) | (intro h9; rw [hv]; omega)), (by first | exact Or.inr ⟨by omega, 1, pl B n p, by unfold sWhole; rw [pif_f (by omega)], by omega, by omega⟩ | exact Or.inr ⟨by omega, 4, pl B n p, by unfold sWhole; rw [pif_t (by omega), pif_t (by omega)], by omega, by omega⟩ | exact Or.inl ⟨by omega, vl B n p, nx B n p, by unfold sWhole; rw [pif_t (by omega), pif_f (by omega)], (nx_le hp).2, tkm19, by omega, NONE⟩)⟩⟩
  · refine r_if_ne hC (tgt := 16) dX6_takeWhole_7 (by decide) (fun c20 => ?_) (fun c20 => ?_)
    · exfalso; omega
    refine r_aload_n hC dX6_takeWhole_10 0 rfl ?_
    refine r_iconst hC (v := (1)) dX6_takeWhole_11 (by decide) (by decide) (fun x21_ e21 t21 => ?_)
    refine r_callV hC (As := [.int x21_]) (rest := []) (ci := 6) (f_X6_faulty g (xL X) K len I J R hs a0 ka0 x21_ tk htk ktk tp bt hbt hkt hbb hkb nbt B n (hB.mv hF hkb (fun _ => rfl)) hn p hp tkc) mT_2_233 mT_1_3 mT_2_230 mT_2_232 mP_5 okX6_faulty ⟨by decide, by decide⟩ rfl (by show kO (K a0) = _; rw [ka0]; rfl) rfl rfl (Nat.le_of_ble_eq_true rfl) ⟨by decide, by decide⟩ dX6_takeWhole_12 (aI1 (F := fun st M => P g X 3 15 [(0, .ref a0), (1, .int x1), (2, .int x2)] st _ _ M) (M := (K, len, I, J, R)) fun x22_ I22 h22 => ?_)
    obtain ⟨hs22, hf22, k22_0, k22_1, k22_2⟩ := h22
    show P g X 3 15 [(0, .ref a0), (1, .int x1), (2, .int x2)] [.int x22_] _ _ (K, len, I22, J, R)
    have hF22 : Fr K [(7, 4), (7, 5), (7, 6), (8, 2), (8, 3), (8, 4)] I I22 := hF.trans hf22 rfl rfl
    have tkm22 := tkc.mvI hf22 ktk rfl rfl rfl rfl
    exact r_iret hC hQ hlk hr (nz_b (by omega) (by omega)) (by decide) (by decide) dX6_takeWhole_15 ⟨_, _, _, rfl, rfl, ⟨hs22, hF22, hFJ, (by omega), (by omega), (by first | (intro h9; exfalso; omega) | (intro h9; rw [hv]; omega)), (by first | exact Or.inr ⟨by omega, 1, pl B n p, by unfold sWhole; rw [pif_f (by omega)], by omega, by omega⟩ | exact Or.inr ⟨by omega, 4, pl B n p, by unfold sWhole; rw [pif_t (by omega), pif_t (by omega)], by omega, by omega⟩ | exact Or.inl ⟨by omega, vl B n p, nx B n p, by unfold sWhole; rw [pif_t (by omega), pif_f (by omega)], (nx_le hp).2, tkm22, by omega, NONE⟩)⟩⟩
set_option maxHeartbeats 4000000 in
set_option maxRecDepth 100000 in
theorem f_X6_takeNumber (g : GG) (l : Launch) (K len : Nat → Nat) (I : Nat → Nat → Int32) (J : Nat → Nat → Int64) (R : Nat → Nat → Option Nat) (hs : Sf K len I R) (a0 : Nat) (ka0 : K a0 = 7) (i1 : Nat) (pi1 : i1 < 60) (x2 : Int32) (x3 : Int32) (tk : Nat) (htk : R a0 0 = some tk) (ktk : K tk = 8) (tp : Nat) (bt : Nat) (hbt : R tk 0 = some tp) (hkt : K tp = 6) (hbb : R tp 0 = some bt) (hkb : K bt = 40) (nbt : len bt = 900) (B : Nat → Int) (n : Nat) (hB : BT B n bt I) (hn : n ≤ 900) (p : Nat) (hp : p ≤ n) (tkc : TkC B n tk p I J) : Ct g l yX6_takeNumber cX6_takeNumber 4 (Option.some Jvm.ClassFile.FieldType.boolean) rmX6_takeNumber [.ref a0, .ref (g.2.2.1 i1), .int x2, .int x3] (K, len, I, J, R) (pI2 (K, len, I, J, R) (fun r I' J' => Sf K len I' R ∧ Fr K [(7, 4), (7, 5), (7, 6), (8, 2), (8, 3), (8, 4)] I I' ∧ Fr K [(8, 5)] J J' ∧ (0 ≤ r.toInt) ∧ (r.toInt ≤ 1) ∧ (r.toInt ≠ 0 → x2.toInt ≤ (I' a0 4).toInt ∧ (I' a0 4).toInt ≤ x3.toInt) ∧ (r.toInt = 1 ∧ (∃ (v : Int) (p' : Nat), sNum B n p i1 x2.toInt x3.toInt = .ok (v, p') ∧ p' ≤ n ∧ TkC B n tk p' I' J' ∧ (I' a0 4).toInt = v ∧ I' a0 5 = I a0 5) ∨ r.toInt = 0 ∧ (∃ (kf : Int) (qf : Nat), sNum B n p i1 x2.toInt x3.toInt = .error (kf, qf) ∧ (I' a0 5).toInt = kf ∧ (I' a0 6).toInt = qf)))) := by
  refine Ct_intro (by decide +kernel) (Nat.le_of_ble_eq_true rfl) (fun X hC hL hKK hNm hr hlk hQ => ?_)
  subst hL
  have hC : Cx g X cX6_takeNumber "HillTap$Teller" 4 rmX6_takeNumber := hC
  show P g X 4 0 [(0, .ref a0), (1, .ref (g.2.2.1 i1)), (2, .int x2), (3, .int x3)] [] 0 0 (K, len, I, J, R)
  have hF : Fr K [(7, 4), (7, 5), (7, 6), (8, 2), (8, 3), (8, 4)] I I := Fr.refl
  have hFJ : Fr K [(8, 5)] J J := Fr.refl
  have tkc9 := tkc
  obtain ⟨tk3, tk4, tk2, tk1, tk5⟩ := tkc9
  have b_x2 := ti_rng x2
  have b_x3 := ti_rng x3
  refine r_aload_n hC dX6_takeNumber_0 0 rfl ?_
  refine r_getr hC 0 (ci := 6) rfl u6_in (by decide) mT_1_81 dX6_takeNumber_1 ka0 rfl rfl htk ?_
  refine r_aload_n hC dX6_takeNumber_4 1 rfl ?_
  refine r_callV hC (As := [.ref (g.2.2.1 i1)]) (rest := []) (ci := 7) (f_X7_isWord g (xL X) K len I J R hs tk ktk i1 pi1 tp bt hbt hkt hbb hkb nbt B n (hB.mv hF hkb (fun _ => rfl)) hn p hp tkc) mT_2_177 mT_1_4 mT_2_174 mT_2_175 mT_2_176 okX7_isWord ⟨by decide, by decide⟩ rfl (by show kO (K tk) = _; rw [ktk]; rfl) rfl rfl (Nat.le_of_ble_eq_true rfl) ⟨by decide, by decide⟩ dX6_takeNumber_5 (aI0 (F := fun st M => P g X 4 8 [(0, .ref a0), (1, .ref (g.2.2.1 i1)), (2, .int x2), (3, .int x3)] st _ _ M) (M := (K, len, I, J, R)) fun x1_ h1 => ?_)
  obtain ⟨k1_0, k1_1, k1_2⟩ := h1
  show P g X 4 8 [(0, .ref a0), (1, .ref (g.2.2.1 i1)), (2, .int x2), (3, .int x3)] [.int x1_] _ _ (K, len, I, J, R)
  rcases k1_2 with ⟨hr1, hw1⟩ | ⟨hr1, hw1⟩
  · refine r_if_ne hC (tgt := 17) dX6_takeNumber_8 (by decide) (fun c2 => ?_) (fun c2 => ?_)
    rotate_left
    · exfalso; omega
    refine r_aload_n hC dX6_takeNumber_17 0 rfl ?_
    refine r_getr hC 0 (ci := 6) rfl u6_in (by decide) mT_1_81 dX6_takeNumber_18 ka0 rfl rfl htk ?_
    refine r_callV hC (As := []) (rest := []) (ci := 7) (f_X7_next g (xL X) K len I J R hs tk ktk tp bt hbt hkt hbb hkb nbt B n (hB.mv hF hkb (fun _ => rfl)) hn (nx B n p) (nx_le hp).2 (tkc.2.2.1) (tkc.2.2.2.1)) mT_2_159 mT_1_4 mT_2_234 mT_2_157 mT_2_158 okX7_next ⟨by decide, by decide⟩ rfl (by show kO (K tk) = _; rw [ktk]; rfl) rfl rfl (Nat.le_of_ble_eq_true rfl) ⟨by decide, by decide⟩ dX6_takeNumber_21 (aV2 (F := fun st M => P g X 4 24 [(0, .ref a0), (1, .ref (g.2.2.1 i1)), (2, .int x2), (3, .int x3)] st _ _ M) (M := (K, len, I, J, R)) fun I3 J3 h3 => ?_)
    obtain ⟨hs3, hf3, hfj3, k3_0⟩ := h3
    show P g X 4 24 [(0, .ref a0), (1, .ref (g.2.2.1 i1)), (2, .int x2), (3, .int x3)] [] _ _ (K, len, I3, J3, R)
    have hF3 : Fr K [(7, 4), (7, 5), (7, 6), (8, 2), (8, 3), (8, 4)] I I3 := hF.trans hf3 rfl rfl
    have hFJ3 : Fr K [(8, 5)] J J3 := hFJ.trans hfj3 rfl rfl
    have fp3 : I3 a0 5 = I a0 5 := (hf3.get ka0 rfl).trans rfl
    refine r_aload_n hC dX6_takeNumber_24 0 rfl ?_
    refine r_iload_n hC dX6_takeNumber_25 2 rfl ?_
    refine r_iload_n hC dX6_takeNumber_26 3 rfl ?_
    refine r_callV hC (As := [.int x2, .int x3]) (rest := []) (ci := 6) (f_X6_takeWhole g (xL X) K len I3 J3 R hs3 a0 ka0 x2 x3 tk htk ktk tp bt hbt hkt hbb hkb nbt B n (hB.mv hF3 hkb (fun _ => rfl)) hn (nx B n p) (nx_le hp).2 k3_0) mT_3_3 mT_1_3 mT_3_0 mT_3_2 mP_7 okX6_takeWhole ⟨by decide, by decide⟩ rfl (by show kO (K a0) = _; rw [ka0]; rfl) rfl rfl (Nat.le_of_ble_eq_true rfl) ⟨by decide, by decide⟩ dX6_takeNumber_27 (aI2 (F := fun st M => P g X 4 30 [(0, .ref a0), (1, .ref (g.2.2.1 i1)), (2, .int x2), (3, .int x3)] st _ _ M) (M := (K, len, I3, J3, R)) fun x4_ I4 J4 h4 => ?_)
    obtain ⟨hs4, hf4, hfj4, k4_0, k4_1, k4_2, k4_3⟩ := h4
    show P g X 4 30 [(0, .ref a0), (1, .ref (g.2.2.1 i1)), (2, .int x2), (3, .int x3)] [.int x4_] _ _ (K, len, I4, J4, R)
    have hF4 : Fr K [(7, 4), (7, 5), (7, 6), (8, 2), (8, 3), (8, 4)] I I4 := hF3.trans hf4 rfl rfl
    have hFJ4 : Fr K [(8, 5)] J J4 := hFJ3.trans hfj4 rfl rfl
    rcases k4_3 with ⟨hr4, v4, p4, hsp4, hp4, tk4, hw4, fl4⟩ | ⟨hr4, kf4, qf4, hsp4, hf14, hf24⟩
    · have fq4 : I4 a0 5 = I a0 5 := fl4.trans fp3
      exact r_iret hC hQ hlk hr (nz_b (by omega) (by omega)) (by decide) (by decide) dX6_takeNumber_30 ⟨_, _, _, rfl, rfl, ⟨hs4, hF4, hFJ4, (by omega), (by omega), (by first | assumption | (intro h9; exfalso; omega)), (by first | exact Or.inr ⟨by omega, 1, pl B n p, by unfold sNum; rw [pif_t hw1, hsp4, bnd_ok], by omega, by omega⟩ | exact Or.inl ⟨hr4, v4, p4, by unfold sNum; rw [pif_t (by assumption)]; exact hsp4, hp4, tk4, hw4, fq4⟩ | exact Or.inr ⟨hr4, kf4, qf4, by unfold sNum; rw [pif_t (by assumption)]; exact hsp4, hf14, hf24⟩)⟩⟩
    · exact r_iret hC hQ hlk hr (nz_b (by omega) (by omega)) (by decide) (by decide) dX6_takeNumber_30 ⟨_, _, _, rfl, rfl, ⟨hs4, hF4, hFJ4, (by omega), (by omega), (by first | assumption | (intro h9; exfalso; omega)), (by first | exact Or.inr ⟨by omega, 1, pl B n p, by unfold sNum; rw [pif_t hw1, hsp4, bnd_er], by omega, by omega⟩ | exact Or.inl ⟨hr4, v4, p4, by unfold sNum; rw [pif_t (by assumption)]; exact hsp4, hp4, tk4, hw4, NONE⟩ | exact Or.inr ⟨hr4, kf4, qf4, by unfold sNum; rw [pif_t (by assumption)]; exact hsp4, hf14, hf24⟩)⟩⟩
  · refine r_if_ne hC (tgt := 17) dX6_takeNumber_8 (by decide) (fun c5 => ?_) (fun c5 => ?_)
    · exfalso; omega
    refine r_aload_n hC dX6_takeNumber_11 0 rfl ?_
    refine r_iconst hC (v := (1)) dX6_takeNumber_12 (by decide) (by decide) (fun x6_ e6 t6 => ?_)
    refine r_callV hC (As := [.int x6_]) (rest := []) (ci := 6) (f_X6_faulty g (xL X) K len I J R hs a0 ka0 x6_ tk htk ktk tp bt hbt hkt hbb hkb nbt B n (hB.mv hF hkb (fun _ => rfl)) hn p hp tkc) mT_2_233 mT_1_3 mT_2_230 mT_2_232 mP_5 okX6_faulty ⟨by decide, by decide⟩ rfl (by show kO (K a0) = _; rw [ka0]; rfl) rfl rfl (Nat.le_of_ble_eq_true rfl) ⟨by decide, by decide⟩ dX6_takeNumber_13 (aI1 (F := fun st M => P g X 4 16 [(0, .ref a0), (1, .ref (g.2.2.1 i1)), (2, .int x2), (3, .int x3)] st _ _ M) (M := (K, len, I, J, R)) fun x7_ I7 h7 => ?_)
    obtain ⟨hs7, hf7, k7_0, k7_1, k7_2⟩ := h7
    show P g X 4 16 [(0, .ref a0), (1, .ref (g.2.2.1 i1)), (2, .int x2), (3, .int x3)] [.int x7_] _ _ (K, len, I7, J, R)
    have hF7 : Fr K [(7, 4), (7, 5), (7, 6), (8, 2), (8, 3), (8, 4)] I I7 := hF.trans hf7 rfl rfl
    have tkm7 := tkc.mvI hf7 ktk rfl rfl rfl rfl
    exact r_iret hC hQ hlk hr (nz_b (by omega) (by omega)) (by decide) (by decide) dX6_takeNumber_16 ⟨_, _, _, rfl, rfl, ⟨hs7, hF7, hFJ, (by omega), (by omega), (by first | assumption | (intro h9; exfalso; omega)), (by first | exact Or.inr ⟨by omega, 1, pl B n p, by unfold sNum; rw [pif_f hw1], by omega, by omega⟩ | exact Or.inl ⟨hr7, v7, p7, by unfold sNum; rw [pif_t (by assumption)]; exact hsp7, hp7, tk7, hw7, NONE⟩ | exact Or.inr ⟨hr7, kf7, qf7, by unfold sNum; rw [pif_t (by assumption)]; exact hsp7, hf17, hf27⟩)⟩⟩
set_option maxHeartbeats 4000000 in
set_option maxRecDepth 100000 in
theorem f_X6_isName (g : GG) (l : Launch) (K len : Nat → Nat) (I : Nat → Nat → Int32) (J : Nat → Nat → Int64) (R : Nat → Nat → Option Nat) (hs : Sf K len I R) (a0 : Nat) (ka0 : K a0 = 7) (tk : Nat) (htk : R a0 0 = some tk) (ktk : K tk = 8) (tp : Nat) (bt : Nat) (hbt : R tk 0 = some tp) (hkt : K tp = 6) (hbb : R tp 0 = some bt) (hkb : K bt = 40) (nbt : len bt = 900) (B : Nat → Int) (n : Nat) (hB : BT B n bt I) (hn : n ≤ 900) (p : Nat) (hp : p ≤ n) (tkc : TkC B n tk p I J) : Ct g l yX6_isName cX6_isName 1 (Option.some Jvm.ClassFile.FieldType.boolean) rmX6_isName [.ref a0] (K, len, I, J, R) (pI0 (K, len, I, J, R) (fun r => (0 ≤ r.toInt) ∧ (r.toInt ≤ 1) ∧ (r.toInt = 1 ∧ isNm B n p ∨ r.toInt = 0 ∧ ¬ isNm B n p))) := by
  refine Ct_intro (by decide +kernel) (Nat.le_of_ble_eq_true rfl) (fun X hC hL hKK hNm hr hlk hQ => ?_)
  subst hL
  have hC : Cx g X cX6_isName "HillTap$Teller" 1 rmX6_isName := hC
  show P g X 1 0 [(0, .ref a0)] [] 0 0 (K, len, I, J, R)
  have hF : Fr K [] I I := Fr.refl
  have tkc9 := tkc
  obtain ⟨tk3, tk4, tk2, tk1, tk5⟩ := tkc9
  refine r_aload_n hC dX6_isName_0 0 rfl ?_
  refine r_getr hC 0 (ci := 6) rfl u6_in (by decide) mT_1_81 dX6_isName_1 ka0 rfl rfl htk ?_
  refine r_callV hC (As := []) (rest := []) (ci := 7) (f_X7_isAnyWord g (xL X) K len I J R hs tk ktk B n p tkc) mT_3_29 mT_1_4 mT_3_26 mT_3_27 mT_3_28 okX7_isAnyWord ⟨by decide, by decide⟩ rfl (by show kO (K tk) = _; rw [ktk]; rfl) rfl rfl (Nat.le_of_ble_eq_true rfl) ⟨by decide, by decide⟩ dX6_isName_4 (aI0 (F := fun st M => P g X 1 7 [(0, .ref a0)] st _ _ M) (M := (K, len, I, J, R)) fun x1_ h1 => ?_)
  obtain ⟨k1_0, k1_1, k1_2⟩ := h1
  show P g X 1 7 [(0, .ref a0)] [.int x1_] _ _ (K, len, I, J, R)
  rcases k1_2 with ⟨hr1, hw1⟩ | ⟨hr1, hw1⟩
  · refine r_if_eq hC (tgt := 98) dX6_isName_7 (by decide) (fun c2 => ?_) (fun c2 => ?_)
    · exfalso; omega
    refine r_aload_n hC dX6_isName_10 0 rfl ?_
    refine r_getr hC 0 (ci := 6) rfl u6_in (by decide) mT_1_81 dX6_isName_11 ka0 rfl rfl htk ?_
    refine r_ldcS hC (i := 0) (by decide) rfl rfl dX6_isName_14 ?_
    refine r_callV hC (As := [.ref (g.2.2.1 0)]) (rest := []) (ci := 7) (f_X7_isWord g (xL X) K len I J R hs tk ktk 0 (by decide) tp bt hbt hkt hbb hkb nbt B n (hB.mv hF hkb (fun _ => rfl)) hn p hp tkc) mT_2_177 mT_1_4 mT_2_174 mT_2_175 mT_2_176 okX7_isWord ⟨by decide, by decide⟩ rfl (by show kO (K tk) = _; rw [ktk]; rfl) rfl rfl (Nat.le_of_ble_eq_true rfl) ⟨by decide, by decide⟩ dX6_isName_16 (aI0 (F := fun st M => P g X 1 19 [(0, .ref a0)] st _ _ M) (M := (K, len, I, J, R)) fun x3_ h3 => ?_)
    obtain ⟨k3_0, k3_1, k3_2⟩ := h3
    show P g X 1 19 [(0, .ref a0)] [.int x3_] _ _ (K, len, I, J, R)
    rcases k3_2 with ⟨hr3, hw3⟩ | ⟨hr3, hw3⟩
    · refine r_if_ne hC (tgt := 98) dX6_isName_19 (by decide) (fun c4 => ?_) (fun c4 => ?_)
      rotate_left
      · exfalso; omega
      refine r_iconst hC (v := (0)) dX6_isName_98 (by decide) (by decide) (fun x5_ e5 t5 => ?_)
      exact r_iret hC hQ hlk hr (by rw [e5]; rfl) (by decide) (by decide) dX6_isName_99 ⟨_, rfl, rfl, ⟨(by omega), (by omega), (by first | exact Or.inl ⟨by omega, by assumption, by assumption, by assumption, by assumption, by assumption, by assumption, by assumption, by assumption⟩ | exact Or.inr ⟨by omega, fun h9 => by first | exact absurd h9.1 (by assumption) | exact h9.2.1 (by assumption) | exact h9.2.2.1 (by assumption) | exact h9.2.2.2.1 (by assumption) | exact h9.2.2.2.2.1 (by assumption) | exact h9.2.2.2.2.2.1 (by assumption) | exact h9.2.2.2.2.2.2.1 (by assumption) | exact h9.2.2.2.2.2.2.2 (by assumption)⟩)⟩⟩
    · refine r_if_ne hC (tgt := 98) dX6_isName_19 (by decide) (fun c6 => ?_) (fun c6 => ?_)
      · exfalso; omega
      refine r_aload_n hC dX6_isName_22 0 rfl ?_
      refine r_getr hC 0 (ci := 6) rfl u6_in (by decide) mT_1_81 dX6_isName_23 ka0 rfl rfl htk ?_
      refine r_ldcS hC (i := 4) (by decide) rfl rfl dX6_isName_26 ?_
      refine r_callV hC (As := [.ref (g.2.2.1 4)]) (rest := []) (ci := 7) (f_X7_isWord g (xL X) K len I J R hs tk ktk 4 (by decide) tp bt hbt hkt hbb hkb nbt B n (hB.mv hF hkb (fun _ => rfl)) hn p hp tkc) mT_2_177 mT_1_4 mT_2_174 mT_2_175 mT_2_176 okX7_isWord ⟨by decide, by decide⟩ rfl (by show kO (K tk) = _; rw [ktk]; rfl) rfl rfl (Nat.le_of_ble_eq_true rfl) ⟨by decide, by decide⟩ dX6_isName_28 (aI0 (F := fun st M => P g X 1 31 [(0, .ref a0)] st _ _ M) (M := (K, len, I, J, R)) fun x7_ h7 => ?_)
      obtain ⟨k7_0, k7_1, k7_2⟩ := h7
      show P g X 1 31 [(0, .ref a0)] [.int x7_] _ _ (K, len, I, J, R)
      rcases k7_2 with ⟨hr7, hw7⟩ | ⟨hr7, hw7⟩
      · refine r_if_ne hC (tgt := 98) dX6_isName_31 (by decide) (fun c8 => ?_) (fun c8 => ?_)
        rotate_left
        · exfalso; omega
        refine r_iconst hC (v := (0)) dX6_isName_98 (by decide) (by decide) (fun x9_ e9 t9 => ?_)
        exact r_iret hC hQ hlk hr (by rw [e9]; rfl) (by decide) (by decide) dX6_isName_99 ⟨_, rfl, rfl, ⟨(by omega), (by omega), (by first | exact Or.inl ⟨by omega, by assumption, by assumption, by assumption, by assumption, by assumption, by assumption, by assumption, by assumption⟩ | exact Or.inr ⟨by omega, fun h9 => by first | exact absurd h9.1 (by assumption) | exact h9.2.1 (by assumption) | exact h9.2.2.1 (by assumption) | exact h9.2.2.2.1 (by assumption) | exact h9.2.2.2.2.1 (by assumption) | exact h9.2.2.2.2.2.1 (by assumption) | exact h9.2.2.2.2.2.2.1 (by assumption) | exact h9.2.2.2.2.2.2.2 (by assumption)⟩)⟩⟩
      · refine r_if_ne hC (tgt := 98) dX6_isName_31 (by decide) (fun c10 => ?_) (fun c10 => ?_)
        · exfalso; omega
        refine r_aload_n hC dX6_isName_34 0 rfl ?_
        refine r_getr hC 0 (ci := 6) rfl u6_in (by decide) mT_1_81 dX6_isName_35 ka0 rfl rfl htk ?_
        refine r_ldcS hC (i := 5) (by decide) rfl rfl dX6_isName_38 ?_
        refine r_callV hC (As := [.ref (g.2.2.1 5)]) (rest := []) (ci := 7) (f_X7_isWord g (xL X) K len I J R hs tk ktk 5 (by decide) tp bt hbt hkt hbb hkb nbt B n (hB.mv hF hkb (fun _ => rfl)) hn p hp tkc) mT_2_177 mT_1_4 mT_2_174 mT_2_175 mT_2_176 okX7_isWord ⟨by decide, by decide⟩ rfl (by show kO (K tk) = _; rw [ktk]; rfl) rfl rfl (Nat.le_of_ble_eq_true rfl) ⟨by decide, by decide⟩ dX6_isName_40 (aI0 (F := fun st M => P g X 1 43 [(0, .ref a0)] st _ _ M) (M := (K, len, I, J, R)) fun x11_ h11 => ?_)
        obtain ⟨k11_0, k11_1, k11_2⟩ := h11
        show P g X 1 43 [(0, .ref a0)] [.int x11_] _ _ (K, len, I, J, R)
        rcases k11_2 with ⟨hr11, hw11⟩ | ⟨hr11, hw11⟩
        · refine r_if_ne hC (tgt := 98) dX6_isName_43 (by decide) (fun c12 => ?_) (fun c12 => ?_)
          rotate_left
          · exfalso; omega
          refine r_iconst hC (v := (0)) dX6_isName_98 (by decide) (by decide) (fun x13_ e13 t13 => ?_)
          exact r_iret hC hQ hlk hr (by rw [e13]; rfl) (by decide) (by decide) dX6_isName_99 ⟨_, rfl, rfl, ⟨(by omega), (by omega), (by first | exact Or.inl ⟨by omega, by assumption, by assumption, by assumption, by assumption, by assumption, by assumption, by assumption, by assumption⟩ | exact Or.inr ⟨by omega, fun h9 => by first | exact absurd h9.1 (by assumption) | exact h9.2.1 (by assumption) | exact h9.2.2.1 (by assumption) | exact h9.2.2.2.1 (by assumption) | exact h9.2.2.2.2.1 (by assumption) | exact h9.2.2.2.2.2.1 (by assumption) | exact h9.2.2.2.2.2.2.1 (by assumption) | exact h9.2.2.2.2.2.2.2 (by assumption)⟩)⟩⟩
        · refine r_if_ne hC (tgt := 98) dX6_isName_43 (by decide) (fun c14 => ?_) (fun c14 => ?_)
          · exfalso; omega
          refine r_aload_n hC dX6_isName_46 0 rfl ?_
          refine r_getr hC 0 (ci := 6) rfl u6_in (by decide) mT_1_81 dX6_isName_47 ka0 rfl rfl htk ?_
          refine r_ldcS hC (i := 6) (by decide) rfl rfl dX6_isName_50 ?_
          refine r_callV hC (As := [.ref (g.2.2.1 6)]) (rest := []) (ci := 7) (f_X7_isWord g (xL X) K len I J R hs tk ktk 6 (by decide) tp bt hbt hkt hbb hkb nbt B n (hB.mv hF hkb (fun _ => rfl)) hn p hp tkc) mT_2_177 mT_1_4 mT_2_174 mT_2_175 mT_2_176 okX7_isWord ⟨by decide, by decide⟩ rfl (by show kO (K tk) = _; rw [ktk]; rfl) rfl rfl (Nat.le_of_ble_eq_true rfl) ⟨by decide, by decide⟩ dX6_isName_52 (aI0 (F := fun st M => P g X 1 55 [(0, .ref a0)] st _ _ M) (M := (K, len, I, J, R)) fun x15_ h15 => ?_)
          obtain ⟨k15_0, k15_1, k15_2⟩ := h15
          show P g X 1 55 [(0, .ref a0)] [.int x15_] _ _ (K, len, I, J, R)
          rcases k15_2 with ⟨hr15, hw15⟩ | ⟨hr15, hw15⟩
          · refine r_if_ne hC (tgt := 98) dX6_isName_55 (by decide) (fun c16 => ?_) (fun c16 => ?_)
            rotate_left
            · exfalso; omega
            refine r_iconst hC (v := (0)) dX6_isName_98 (by decide) (by decide) (fun x17_ e17 t17 => ?_)
            exact r_iret hC hQ hlk hr (by rw [e17]; rfl) (by decide) (by decide) dX6_isName_99 ⟨_, rfl, rfl, ⟨(by omega), (by omega), (by first | exact Or.inl ⟨by omega, by assumption, by assumption, by assumption, by assumption, by assumption, by assumption, by assumption, by assumption⟩ | exact Or.inr ⟨by omega, fun h9 => by first | exact absurd h9.1 (by assumption) | exact h9.2.1 (by assumption) | exact h9.2.2.1 (by assumption) | exact h9.2.2.2.1 (by assumption) | exact h9.2.2.2.2.1 (by assumption) | exact h9.2.2.2.2.2.1 (by assumption) | exact h9.2.2.2.2.2.2.1 (by assumption) | exact h9.2.2.2.2.2.2.2 (by assumption)⟩)⟩⟩
          · refine r_if_ne hC (tgt := 98) dX6_isName_55 (by decide) (fun c18 => ?_) (fun c18 => ?_)
            · exfalso; omega
            refine r_aload_n hC dX6_isName_58 0 rfl ?_
            refine r_getr hC 0 (ci := 6) rfl u6_in (by decide) mT_1_81 dX6_isName_59 ka0 rfl rfl htk ?_
            refine r_ldcS hC (i := 7) (by decide) rfl rfl dX6_isName_62 ?_
            refine r_callV hC (As := [.ref (g.2.2.1 7)]) (rest := []) (ci := 7) (f_X7_isWord g (xL X) K len I J R hs tk ktk 7 (by decide) tp bt hbt hkt hbb hkb nbt B n (hB.mv hF hkb (fun _ => rfl)) hn p hp tkc) mT_2_177 mT_1_4 mT_2_174 mT_2_175 mT_2_176 okX7_isWord ⟨by decide, by decide⟩ rfl (by show kO (K tk) = _; rw [ktk]; rfl) rfl rfl (Nat.le_of_ble_eq_true rfl) ⟨by decide, by decide⟩ dX6_isName_64 (aI0 (F := fun st M => P g X 1 67 [(0, .ref a0)] st _ _ M) (M := (K, len, I, J, R)) fun x19_ h19 => ?_)
            obtain ⟨k19_0, k19_1, k19_2⟩ := h19
            show P g X 1 67 [(0, .ref a0)] [.int x19_] _ _ (K, len, I, J, R)
            rcases k19_2 with ⟨hr19, hw19⟩ | ⟨hr19, hw19⟩
            · refine r_if_ne hC (tgt := 98) dX6_isName_67 (by decide) (fun c20 => ?_) (fun c20 => ?_)
              rotate_left
              · exfalso; omega
              refine r_iconst hC (v := (0)) dX6_isName_98 (by decide) (by decide) (fun x21_ e21 t21 => ?_)
              exact r_iret hC hQ hlk hr (by rw [e21]; rfl) (by decide) (by decide) dX6_isName_99 ⟨_, rfl, rfl, ⟨(by omega), (by omega), (by first | exact Or.inl ⟨by omega, by assumption, by assumption, by assumption, by assumption, by assumption, by assumption, by assumption, by assumption⟩ | exact Or.inr ⟨by omega, fun h9 => by first | exact absurd h9.1 (by assumption) | exact h9.2.1 (by assumption) | exact h9.2.2.1 (by assumption) | exact h9.2.2.2.1 (by assumption) | exact h9.2.2.2.2.1 (by assumption) | exact h9.2.2.2.2.2.1 (by assumption) | exact h9.2.2.2.2.2.2.1 (by assumption) | exact h9.2.2.2.2.2.2.2 (by assumption)⟩)⟩⟩
            · refine r_if_ne hC (tgt := 98) dX6_isName_67 (by decide) (fun c22 => ?_) (fun c22 => ?_)
              · exfalso; omega
              refine r_aload_n hC dX6_isName_70 0 rfl ?_
              refine r_getr hC 0 (ci := 6) rfl u6_in (by decide) mT_1_81 dX6_isName_71 ka0 rfl rfl htk ?_
              refine r_ldcS hC (i := 8) (by decide) rfl rfl dX6_isName_74 ?_
              refine r_callV hC (As := [.ref (g.2.2.1 8)]) (rest := []) (ci := 7) (f_X7_isWord g (xL X) K len I J R hs tk ktk 8 (by decide) tp bt hbt hkt hbb hkb nbt B n (hB.mv hF hkb (fun _ => rfl)) hn p hp tkc) mT_2_177 mT_1_4 mT_2_174 mT_2_175 mT_2_176 okX7_isWord ⟨by decide, by decide⟩ rfl (by show kO (K tk) = _; rw [ktk]; rfl) rfl rfl (Nat.le_of_ble_eq_true rfl) ⟨by decide, by decide⟩ dX6_isName_76 (aI0 (F := fun st M => P g X 1 79 [(0, .ref a0)] st _ _ M) (M := (K, len, I, J, R)) fun x23_ h23 => ?_)
              obtain ⟨k23_0, k23_1, k23_2⟩ := h23
              show P g X 1 79 [(0, .ref a0)] [.int x23_] _ _ (K, len, I, J, R)
              rcases k23_2 with ⟨hr23, hw23⟩ | ⟨hr23, hw23⟩
              · refine r_if_ne hC (tgt := 98) dX6_isName_79 (by decide) (fun c24 => ?_) (fun c24 => ?_)
                rotate_left
                · exfalso; omega
                refine r_iconst hC (v := (0)) dX6_isName_98 (by decide) (by decide) (fun x25_ e25 t25 => ?_)
                exact r_iret hC hQ hlk hr (by rw [e25]; rfl) (by decide) (by decide) dX6_isName_99 ⟨_, rfl, rfl, ⟨(by omega), (by omega), (by first | exact Or.inl ⟨by omega, by assumption, by assumption, by assumption, by assumption, by assumption, by assumption, by assumption, by assumption⟩ | exact Or.inr ⟨by omega, fun h9 => by first | exact absurd h9.1 (by assumption) | exact h9.2.1 (by assumption) | exact h9.2.2.1 (by assumption) | exact h9.2.2.2.1 (by assumption) | exact h9.2.2.2.2.1 (by assumption) | exact h9.2.2.2.2.2.1 (by assumption) | exact h9.2.2.2.2.2.2.1 (by assumption) | exact h9.2.2.2.2.2.2.2 (by assumption)⟩)⟩⟩
              · refine r_if_ne hC (tgt := 98) dX6_isName_79 (by decide) (fun c26 => ?_) (fun c26 => ?_)
                · exfalso; omega
                refine r_aload_n hC dX6_isName_82 0 rfl ?_
                refine r_getr hC 0 (ci := 6) rfl u6_in (by decide) mT_1_81 dX6_isName_83 ka0 rfl rfl htk ?_
                refine r_ldcS hC (i := 9) (by decide) rfl rfl dX6_isName_86 ?_
                refine r_callV hC (As := [.ref (g.2.2.1 9)]) (rest := []) (ci := 7) (f_X7_isWord g (xL X) K len I J R hs tk ktk 9 (by decide) tp bt hbt hkt hbb hkb nbt B n (hB.mv hF hkb (fun _ => rfl)) hn p hp tkc) mT_2_177 mT_1_4 mT_2_174 mT_2_175 mT_2_176 okX7_isWord ⟨by decide, by decide⟩ rfl (by show kO (K tk) = _; rw [ktk]; rfl) rfl rfl (Nat.le_of_ble_eq_true rfl) ⟨by decide, by decide⟩ dX6_isName_88 (aI0 (F := fun st M => P g X 1 91 [(0, .ref a0)] st _ _ M) (M := (K, len, I, J, R)) fun x27_ h27 => ?_)
                obtain ⟨k27_0, k27_1, k27_2⟩ := h27
                show P g X 1 91 [(0, .ref a0)] [.int x27_] _ _ (K, len, I, J, R)
                rcases k27_2 with ⟨hr27, hw27⟩ | ⟨hr27, hw27⟩
                · refine r_if_ne hC (tgt := 98) dX6_isName_91 (by decide) (fun c28 => ?_) (fun c28 => ?_)
                  rotate_left
                  · exfalso; omega
                  refine r_iconst hC (v := (0)) dX6_isName_98 (by decide) (by decide) (fun x29_ e29 t29 => ?_)
                  exact r_iret hC hQ hlk hr (by rw [e29]; rfl) (by decide) (by decide) dX6_isName_99 ⟨_, rfl, rfl, ⟨(by omega), (by omega), (by first | exact Or.inl ⟨by omega, by assumption, by assumption, by assumption, by assumption, by assumption, by assumption, by assumption, by assumption⟩ | exact Or.inr ⟨by omega, fun h9 => by first | exact absurd h9.1 (by assumption) | exact h9.2.1 (by assumption) | exact h9.2.2.1 (by assumption) | exact h9.2.2.2.1 (by assumption) | exact h9.2.2.2.2.1 (by assumption) | exact h9.2.2.2.2.2.1 (by assumption) | exact h9.2.2.2.2.2.2.1 (by assumption) | exact h9.2.2.2.2.2.2.2 (by assumption)⟩)⟩⟩
                · refine r_if_ne hC (tgt := 98) dX6_isName_91 (by decide) (fun c30 => ?_) (fun c30 => ?_)
                  · exfalso; omega
                  refine r_iconst hC (v := (1)) dX6_isName_94 (by decide) (by decide) (fun x31_ e31 t31 => ?_)
                  refine r_goto hC (tgt := 99) dX6_isName_95 (by decide) ?_
                  exact r_iret hC hQ hlk hr (by rw [e31]; rfl) (by decide) (by decide) dX6_isName_99 ⟨_, rfl, rfl, ⟨(by omega), (by omega), (by first | exact Or.inl ⟨by omega, by assumption, by assumption, by assumption, by assumption, by assumption, by assumption, by assumption, by assumption⟩ | exact Or.inr ⟨by omega, fun h9 => by first | exact absurd h9.1 (by assumption) | exact h9.2.1 (by assumption) | exact h9.2.2.1 (by assumption) | exact h9.2.2.2.1 (by assumption) | exact h9.2.2.2.2.1 (by assumption) | exact h9.2.2.2.2.2.1 (by assumption) | exact h9.2.2.2.2.2.2.1 (by assumption) | exact h9.2.2.2.2.2.2.2 (by assumption)⟩)⟩⟩
  · refine r_if_eq hC (tgt := 98) dX6_isName_7 (by decide) (fun c32 => ?_) (fun c32 => ?_)
    rotate_left
    · exfalso; omega
    refine r_iconst hC (v := (0)) dX6_isName_98 (by decide) (by decide) (fun x33_ e33 t33 => ?_)
    exact r_iret hC hQ hlk hr (by rw [e33]; rfl) (by decide) (by decide) dX6_isName_99 ⟨_, rfl, rfl, ⟨(by omega), (by omega), (by first | exact Or.inl ⟨by omega, by assumption, by assumption, by assumption, by assumption, by assumption, by assumption, by assumption, by assumption⟩ | exact Or.inr ⟨by omega, fun h9 => by first | exact absurd h9.1 (by assumption) | exact h9.2.1 (by assumption) | exact h9.2.2.1 (by assumption) | exact h9.2.2.2.1 (by assumption) | exact h9.2.2.2.2.1 (by assumption) | exact h9.2.2.2.2.2.1 (by assumption) | exact h9.2.2.2.2.2.2.1 (by assumption) | exact h9.2.2.2.2.2.2.2 (by assumption)⟩)⟩⟩
set_option maxHeartbeats 4000000 in
set_option maxRecDepth 100000 in
theorem f_X6_kindHere (g : GG) (l : Launch) (K len : Nat → Nat) (I : Nat → Nat → Int32) (J : Nat → Nat → Int64) (R : Nat → Nat → Option Nat) (hs : Sf K len I R) (a0 : Nat) (ka0 : K a0 = 7) (tk : Nat) (htk : R a0 0 = some tk) (ktk : K tk = 8) (tp : Nat) (bt : Nat) (hbt : R tk 0 = some tp) (hkt : K tp = 6) (hbb : R tp 0 = some bt) (hkb : K bt = 40) (nbt : len bt = 900) (B : Nat → Int) (n : Nat) (hB : BT B n bt I) (hn : n ≤ 900) (p : Nat) (hp : p ≤ n) (tkc : TkC B n tk p I J) : Ct g l yX6_kindHere cX6_kindHere 1 (Option.some Jvm.ClassFile.FieldType.int) rmX6_kindHere [.ref a0] (K, len, I, J, R) (pI0 (K, len, I, J, R) (fun r => (r.toInt = sKind B n p))) := by
  refine Ct_intro (by decide +kernel) (Nat.le_of_ble_eq_true rfl) (fun X hC hL hKK hNm hr hlk hQ => ?_)
  subst hL
  have hC : Cx g X cX6_kindHere "HillTap$Teller" 1 rmX6_kindHere := hC
  show P g X 1 0 [(0, .ref a0)] [] 0 0 (K, len, I, J, R)
  have hF : Fr K [] I I := Fr.refl
  have tkc9 := tkc
  obtain ⟨tk3, tk4, tk2, tk1, tk5⟩ := tkc9
  refine r_aload_n hC dX6_kindHere_0 0 rfl ?_
  refine r_getr hC 0 (ci := 6) rfl u6_in (by decide) mT_1_81 dX6_kindHere_1 ka0 rfl rfl htk ?_
  refine r_ldcS hC (i := 15) (by decide) rfl rfl dX6_kindHere_4 ?_
  refine r_callV hC (As := [.ref (g.2.2.1 15)]) (rest := []) (ci := 7) (f_X7_isWord g (xL X) K len I J R hs tk ktk 15 (by decide) tp bt hbt hkt hbb hkb nbt B n (hB.mv hF hkb (fun _ => rfl)) hn p hp tkc) mT_2_177 mT_1_4 mT_2_174 mT_2_175 mT_2_176 okX7_isWord ⟨by decide, by decide⟩ rfl (by show kO (K tk) = _; rw [ktk]; rfl) rfl rfl (Nat.le_of_ble_eq_true rfl) ⟨by decide, by decide⟩ dX6_kindHere_6 (aI0 (F := fun st M => P g X 1 9 [(0, .ref a0)] st _ _ M) (M := (K, len, I, J, R)) fun x1_ h1 => ?_)
  obtain ⟨k1_0, k1_1, k1_2⟩ := h1
  show P g X 1 9 [(0, .ref a0)] [.int x1_] _ _ (K, len, I, J, R)
  rcases k1_2 with ⟨hr1, hw1⟩ | ⟨hr1, hw1⟩
  · refine r_if_eq hC (tgt := 14) dX6_kindHere_9 (by decide) (fun c2 => ?_) (fun c2 => ?_)
    · exfalso; omega
    refine r_iconst hC (v := (0)) dX6_kindHere_12 (by decide) (by decide) (fun x3_ e3 t3 => ?_)
    exact r_iret hC hQ hlk hr rfl (by decide) (by decide) dX6_kindHere_13 ⟨_, rfl, rfl, (by unfold sKind; rw [pif_t hw1]; omega)⟩
  · refine r_if_eq hC (tgt := 14) dX6_kindHere_9 (by decide) (fun c4 => ?_) (fun c4 => ?_)
    rotate_left
    · exfalso; omega
    refine r_aload_n hC dX6_kindHere_14 0 rfl ?_
    refine r_getr hC 0 (ci := 6) rfl u6_in (by decide) mT_1_81 dX6_kindHere_15 ka0 rfl rfl htk ?_
    refine r_ldcS hC (i := 16) (by decide) rfl rfl dX6_kindHere_18 ?_
    refine r_callV hC (As := [.ref (g.2.2.1 16)]) (rest := []) (ci := 7) (f_X7_isWord g (xL X) K len I J R hs tk ktk 16 (by decide) tp bt hbt hkt hbb hkb nbt B n (hB.mv hF hkb (fun _ => rfl)) hn p hp tkc) mT_2_177 mT_1_4 mT_2_174 mT_2_175 mT_2_176 okX7_isWord ⟨by decide, by decide⟩ rfl (by show kO (K tk) = _; rw [ktk]; rfl) rfl rfl (Nat.le_of_ble_eq_true rfl) ⟨by decide, by decide⟩ dX6_kindHere_20 (aI0 (F := fun st M => P g X 1 23 [(0, .ref a0)] st _ _ M) (M := (K, len, I, J, R)) fun x5_ h5 => ?_)
    obtain ⟨k5_0, k5_1, k5_2⟩ := h5
    show P g X 1 23 [(0, .ref a0)] [.int x5_] _ _ (K, len, I, J, R)
    rcases k5_2 with ⟨hr5, hw5⟩ | ⟨hr5, hw5⟩
    · refine r_if_eq hC (tgt := 28) dX6_kindHere_23 (by decide) (fun c6 => ?_) (fun c6 => ?_)
      · exfalso; omega
      refine r_iconst hC (v := (1)) dX6_kindHere_26 (by decide) (by decide) (fun x7_ e7 t7 => ?_)
      exact r_iret hC hQ hlk hr rfl (by decide) (by decide) dX6_kindHere_27 ⟨_, rfl, rfl, (by unfold sKind; rw [pif_f hw1, pif_t hw5]; omega)⟩
    · refine r_if_eq hC (tgt := 28) dX6_kindHere_23 (by decide) (fun c8 => ?_) (fun c8 => ?_)
      rotate_left
      · exfalso; omega
      refine r_aload_n hC dX6_kindHere_28 0 rfl ?_
      refine r_getr hC 0 (ci := 6) rfl u6_in (by decide) mT_1_81 dX6_kindHere_29 ka0 rfl rfl htk ?_
      refine r_ldcS hC (i := 17) (by decide) rfl rfl dX6_kindHere_32 ?_
      refine r_callV hC (As := [.ref (g.2.2.1 17)]) (rest := []) (ci := 7) (f_X7_isWord g (xL X) K len I J R hs tk ktk 17 (by decide) tp bt hbt hkt hbb hkb nbt B n (hB.mv hF hkb (fun _ => rfl)) hn p hp tkc) mT_2_177 mT_1_4 mT_2_174 mT_2_175 mT_2_176 okX7_isWord ⟨by decide, by decide⟩ rfl (by show kO (K tk) = _; rw [ktk]; rfl) rfl rfl (Nat.le_of_ble_eq_true rfl) ⟨by decide, by decide⟩ dX6_kindHere_34 (aI0 (F := fun st M => P g X 1 37 [(0, .ref a0)] st _ _ M) (M := (K, len, I, J, R)) fun x9_ h9 => ?_)
      obtain ⟨k9_0, k9_1, k9_2⟩ := h9
      show P g X 1 37 [(0, .ref a0)] [.int x9_] _ _ (K, len, I, J, R)
      rcases k9_2 with ⟨hr9, hw9⟩ | ⟨hr9, hw9⟩
      · refine r_if_eq hC (tgt := 42) dX6_kindHere_37 (by decide) (fun c10 => ?_) (fun c10 => ?_)
        · exfalso; omega
        refine r_iconst hC (v := (2)) dX6_kindHere_40 (by decide) (by decide) (fun x11_ e11 t11 => ?_)
        exact r_iret hC hQ hlk hr rfl (by decide) (by decide) dX6_kindHere_41 ⟨_, rfl, rfl, (by unfold sKind; rw [pif_f hw1, pif_f hw5, pif_t hw9]; omega)⟩
      · refine r_if_eq hC (tgt := 42) dX6_kindHere_37 (by decide) (fun c12 => ?_) (fun c12 => ?_)
        rotate_left
        · exfalso; omega
        refine r_aload_n hC dX6_kindHere_42 0 rfl ?_
        refine r_getr hC 0 (ci := 6) rfl u6_in (by decide) mT_1_81 dX6_kindHere_43 ka0 rfl rfl htk ?_
        refine r_ldcS hC (i := 18) (by decide) rfl rfl dX6_kindHere_46 ?_
        refine r_callV hC (As := [.ref (g.2.2.1 18)]) (rest := []) (ci := 7) (f_X7_isWord g (xL X) K len I J R hs tk ktk 18 (by decide) tp bt hbt hkt hbb hkb nbt B n (hB.mv hF hkb (fun _ => rfl)) hn p hp tkc) mT_2_177 mT_1_4 mT_2_174 mT_2_175 mT_2_176 okX7_isWord ⟨by decide, by decide⟩ rfl (by show kO (K tk) = _; rw [ktk]; rfl) rfl rfl (Nat.le_of_ble_eq_true rfl) ⟨by decide, by decide⟩ dX6_kindHere_48 (aI0 (F := fun st M => P g X 1 51 [(0, .ref a0)] st _ _ M) (M := (K, len, I, J, R)) fun x13_ h13 => ?_)
        obtain ⟨k13_0, k13_1, k13_2⟩ := h13
        show P g X 1 51 [(0, .ref a0)] [.int x13_] _ _ (K, len, I, J, R)
        rcases k13_2 with ⟨hr13, hw13⟩ | ⟨hr13, hw13⟩
        · refine r_if_eq hC (tgt := 56) dX6_kindHere_51 (by decide) (fun c14 => ?_) (fun c14 => ?_)
          · exfalso; omega
          refine r_iconst hC (v := (3)) dX6_kindHere_54 (by decide) (by decide) (fun x15_ e15 t15 => ?_)
          exact r_iret hC hQ hlk hr rfl (by decide) (by decide) dX6_kindHere_55 ⟨_, rfl, rfl, (by unfold sKind; rw [pif_f hw1, pif_f hw5, pif_f hw9, pif_t hw13]; omega)⟩
        · refine r_if_eq hC (tgt := 56) dX6_kindHere_51 (by decide) (fun c16 => ?_) (fun c16 => ?_)
          rotate_left
          · exfalso; omega
          refine r_aload_n hC dX6_kindHere_56 0 rfl ?_
          refine r_getr hC 0 (ci := 6) rfl u6_in (by decide) mT_1_81 dX6_kindHere_57 ka0 rfl rfl htk ?_
          refine r_ldcS hC (i := 19) (by decide) rfl rfl dX6_kindHere_60 ?_
          refine r_callV hC (As := [.ref (g.2.2.1 19)]) (rest := []) (ci := 7) (f_X7_isWord g (xL X) K len I J R hs tk ktk 19 (by decide) tp bt hbt hkt hbb hkb nbt B n (hB.mv hF hkb (fun _ => rfl)) hn p hp tkc) mT_2_177 mT_1_4 mT_2_174 mT_2_175 mT_2_176 okX7_isWord ⟨by decide, by decide⟩ rfl (by show kO (K tk) = _; rw [ktk]; rfl) rfl rfl (Nat.le_of_ble_eq_true rfl) ⟨by decide, by decide⟩ dX6_kindHere_62 (aI0 (F := fun st M => P g X 1 65 [(0, .ref a0)] st _ _ M) (M := (K, len, I, J, R)) fun x17_ h17 => ?_)
          obtain ⟨k17_0, k17_1, k17_2⟩ := h17
          show P g X 1 65 [(0, .ref a0)] [.int x17_] _ _ (K, len, I, J, R)
          rcases k17_2 with ⟨hr17, hw17⟩ | ⟨hr17, hw17⟩
          · refine r_if_eq hC (tgt := 70) dX6_kindHere_65 (by decide) (fun c18 => ?_) (fun c18 => ?_)
            · exfalso; omega
            refine r_iconst hC (v := (4)) dX6_kindHere_68 (by decide) (by decide) (fun x19_ e19 t19 => ?_)
            exact r_iret hC hQ hlk hr rfl (by decide) (by decide) dX6_kindHere_69 ⟨_, rfl, rfl, (by unfold sKind; rw [pif_f hw1, pif_f hw5, pif_f hw9, pif_f hw13, pif_t hw17]; omega)⟩
          · refine r_if_eq hC (tgt := 70) dX6_kindHere_65 (by decide) (fun c20 => ?_) (fun c20 => ?_)
            rotate_left
            · exfalso; omega
            refine r_aload_n hC dX6_kindHere_70 0 rfl ?_
            refine r_getr hC 0 (ci := 6) rfl u6_in (by decide) mT_1_81 dX6_kindHere_71 ka0 rfl rfl htk ?_
            refine r_ldcS hC (i := 20) (by decide) rfl rfl dX6_kindHere_74 ?_
            refine r_callV hC (As := [.ref (g.2.2.1 20)]) (rest := []) (ci := 7) (f_X7_isWord g (xL X) K len I J R hs tk ktk 20 (by decide) tp bt hbt hkt hbb hkb nbt B n (hB.mv hF hkb (fun _ => rfl)) hn p hp tkc) mT_2_177 mT_1_4 mT_2_174 mT_2_175 mT_2_176 okX7_isWord ⟨by decide, by decide⟩ rfl (by show kO (K tk) = _; rw [ktk]; rfl) rfl rfl (Nat.le_of_ble_eq_true rfl) ⟨by decide, by decide⟩ dX6_kindHere_76 (aI0 (F := fun st M => P g X 1 79 [(0, .ref a0)] st _ _ M) (M := (K, len, I, J, R)) fun x21_ h21 => ?_)
            obtain ⟨k21_0, k21_1, k21_2⟩ := h21
            show P g X 1 79 [(0, .ref a0)] [.int x21_] _ _ (K, len, I, J, R)
            rcases k21_2 with ⟨hr21, hw21⟩ | ⟨hr21, hw21⟩
            · refine r_if_eq hC (tgt := 86) dX6_kindHere_79 (by decide) (fun c22 => ?_) (fun c22 => ?_)
              · exfalso; omega
              refine r_iconst hC (v := (5)) dX6_kindHere_82 (by decide) (by decide) (fun x23_ e23 t23 => ?_)
              refine r_goto hC (tgt := 87) dX6_kindHere_83 (by decide) ?_
              exact r_iret hC hQ hlk hr rfl (by decide) (by decide) dX6_kindHere_87 ⟨_, rfl, rfl, (by unfold sKind; rw [pif_f hw1, pif_f hw5, pif_f hw9, pif_f hw13, pif_f hw17, pif_t hw21]; omega)⟩
            · refine r_if_eq hC (tgt := 86) dX6_kindHere_79 (by decide) (fun c24 => ?_) (fun c24 => ?_)
              rotate_left
              · exfalso; omega
              refine r_iconst hC (v := (-1)) dX6_kindHere_86 (by decide) (by decide) (fun x25_ e25 t25 => ?_)
              exact r_iret hC hQ hlk hr rfl (by decide) (by decide) dX6_kindHere_87 ⟨_, rfl, rfl, (by unfold sKind; rw [pif_f hw1, pif_f hw5, pif_f hw9, pif_f hw13, pif_f hw17, pif_f hw21]; omega)⟩

