set_option maxHeartbeats 4000000 in
set_option maxRecDepth 100000 in
theorem f_X8_fits (g : GG) (l : Launch) (K len : Nat → Nat) (I : Nat → Nat → Int32) (J : Nat → Nat → Int64) (R : Nat → Nat → Option Nat) (hs : Sf K len I R) (a0 : Nat) (ka0 : K a0 = 9) (h : Nat) (hh : R a0 2 = some h) (kh : K h = 2) (lk : Nat) (hlk2 : R h 0 = some lk) (klk : K lk = 3) (rd : Nat) (hrd : R a0 9 = some rd) (krd : K rd = 4) (lv : Nat) (hlv : R a0 4 = some lv) (klv : K lv = 41) (llv : len lv = 60) (kn : Nat) (hkn : R a0 6 = some kn) (kkn : K kn = 43) (lkn : len kn = 6) (cr : Nat) (hcr : R a0 5 = some cr) (kcr1 : K cr = 44) (lcr : len cr = 6) (hu : UU K R) (D : DD) (E : Nat → Nat → Int) (hc : KC D E a0 h lk rd I R) : Ct g l yX8_fits cX8_fits 1 (Option.some Jvm.ClassFile.FieldType.int) rmX8_fits [.ref a0] (K, len, I, J, R) (pI1 (K, len, I, J, R) (fun r I' => Sf K len I' R ∧ Fr K [(1, 5), (1, 6), (9, 12), (43, 999), (50, 999), (51, 999), (52, 999), (53, 999), (54, 999), (67, 999)] I I' ∧ (KC D E a0 h lk rd I' R) ∧ ((I' a0 12).toInt ≠ 4))) := by
  refine Ct_intro (by decide +kernel) (Nat.le_of_ble_eq_true rfl) (fun X hC hL hKK hNm hr hlk hQ => ?_)
  subst hL
  have hC : Cx g X cX8_fits "HillTap" 1 rmX8_fits := hC
  show P g X 1 0 [(0, .ref a0)] [] 0 0 (K, len, I, J, R)
  have hF : Fr K [(1, 5), (1, 6), (9, 12), (43, 999), (50, 999), (51, 999), (52, 999), (53, 999), (54, 999), (67, 999)] I I := Fr.refl
  have ka : KA a0 h lk rd K len R := ⟨⟨_, hs⟩, hu, ka0, kh, klk, krd⟩
  obtain ⟨sd1, sd2, sd3, sd4, sd5, sd7, sd8, sd9⟩ := id hc.2.1
  have d7b := hs.rng kh (k := 6) rfl (x := I h 6) rfl
  have d5b := hs.rng kh (k := 1) rfl (x := I h 1) rfl
  have d8b := hs.rng kh (k := 8) rfl (x := I h 8) rfl
  refine r_aload_n hC dX8_fits_0 0 rfl ?_
  refine r_callV hC (As := []) (rest := []) (ci := 8) (f_X8_noHill g (xL X) K len I J R hs a0 ka0 h hh kh) mT_3_131 mT_1_1 mT_3_128 mT_3_130 mP_22 okX8_noHill ⟨by decide, by decide⟩ rfl (by show kO (K a0) = _; rw [ka0]; rfl) rfl rfl (Nat.le_of_ble_eq_true rfl) ⟨by decide, by decide⟩ dX8_fits_1 (aI0 (F := fun st M => P g X 1 4 [(0, .ref a0)] st _ _ M) (M := (K, len, I, J, R)) fun x1_ h1 => ?_)
  have k1_0 := h1
  clear h1
  show P g X 1 4 [(0, .ref a0)] [.int x1_] _ _ (K, len, I, J, R)
  rcases k1_0 with ⟨hr1, hw1⟩ | ⟨hr1, hw1⟩
  · refine r_if_eq hC (tgt := 13) dX8_fits_4 (by decide) (fun c2 => ?_) (fun c2 => ?_)
    · exfalso; omega
    refine r_aload_n hC dX8_fits_7 0 rfl ?_
    refine r_iconst hC (v := (1)) dX8_fits_8 (by decide) (by decide) (fun x3_ e3 t3 => ?_)
    refine r_callV hC (As := [.int x3_]) (rest := []) (ci := 8) (c_X8_refuse g (xL X) K len I J R hs a0 ka0 x3_) mT_2_133 mT_1_1 mT_2_130 mT_2_132 mP_0 okX8_refuse ⟨by decide, by decide⟩ rfl (by show kO (K a0) = _; rw [ka0]; rfl) rfl rfl (Nat.le_of_ble_eq_true rfl) ⟨by decide, by decide⟩ dX8_fits_9 (aI1 (F := fun st M => P g X 1 12 [(0, .ref a0)] st _ _ M) (M := (K, len, I, J, R)) fun x4_ I4 h4 => ?_)
    obtain ⟨hs4, hf4, k4_0, k4_1⟩ := h4
    show P g X 1 12 [(0, .ref a0)] [.int x4_] _ _ (K, len, I4, J, R)
    have hF4 : Fr K [(1, 5), (1, 6), (9, 12), (43, 999), (50, 999), (51, 999), (52, 999), (53, 999), (54, 999), (67, 999)] I I4 := hF.trans hf4 rfl rfl
    have hc4 := hc.mv ka hf4 rfl
    exact r_iret hC hQ hlk hr rfl (by decide) (by decide) dX8_fits_12 ⟨_, _, rfl, rfl, ⟨hs4, hF4, (by exact hc4), (by omega)⟩⟩
  · refine r_if_eq hC (tgt := 13) dX8_fits_4 (by decide) (fun c5 => ?_) (fun c5 => ?_)
    rotate_left
    · exfalso; omega
    refine r_aload_n hC dX8_fits_13 0 rfl ?_
    refine r_callV hC (As := []) (rest := []) (ci := 8) (f_X8_findFits g (xL X) K len I J R hs a0 ka0 h hh kh lk hlk2 klk rd hrd krd lv hlv klv llv kn hkn kkn lkn cr hcr kcr1 lcr hu D E hc) mT_3_226 mT_1_1 mT_3_223 mT_3_225 mP_33 okX8_findFits ⟨by decide, by decide⟩ rfl (by show kO (K a0) = _; rw [ka0]; rfl) rfl rfl (Nat.le_of_ble_eq_true rfl) ⟨by decide, by decide⟩ dX8_fits_14 (aV1 (F := fun st M => P g X 1 17 [(0, .ref a0)] st _ _ M) (M := (K, len, I, J, R)) fun I6 h6 => ?_)
    obtain ⟨hs6, hf6, k6_0⟩ := h6
    show P g X 1 17 [(0, .ref a0)] [] _ _ (K, len, I6, J, R)
    have hF6 : Fr K [(1, 5), (1, 6), (9, 12), (43, 999), (50, 999), (51, 999), (52, 999), (53, 999), (54, 999), (67, 999)] I I6 := hF.trans hf6 rfl rfl
    refine r_aload_n hC dX8_fits_17 0 rfl ?_
    refine r_aload_n hC dX8_fits_18 0 rfl ?_
    refine r_bipush hC (v := (59)) dX8_fits_19 (by decide) (by decide) (fun x7_ e7 t7 => ?_)
    refine r_callV hC (As := [.int x7_]) (rest := [.ref a0]) (ci := 8) (c_X8_countFitsUpTo g (xL X) K len I6 J R hs6 a0 ka0 x7_) mT_3_239 mT_1_1 mT_3_236 mT_3_238 mP_34 okX8_countFitsUpTo ⟨by decide, by decide⟩ rfl (by show kO (K a0) = _; rw [ka0]; rfl) rfl rfl (Nat.le_of_ble_eq_true rfl) ⟨by decide, by decide⟩ dX8_fits_21 (aI0 (F := fun st M => P g X 1 24 [(0, .ref a0)] st _ _ M) (M := (K, len, I6, J, R)) fun x8_ h8 => ?_)
    skip
    show P g X 1 24 [(0, .ref a0)] [.int x8_, .ref a0] _ _ (K, len, I6, J, R)
    refine r_callV hC (As := [.int x8_]) (rest := []) (ci := 8) (c_X8_answer g (xL X) K len I6 J R hs6 a0 ka0 x8_) mT_3_115 mT_1_1 mT_3_112 mT_3_114 mP_21 okX8_answer ⟨by decide, by decide⟩ rfl (by show kO (K a0) = _; rw [ka0]; rfl) rfl rfl (Nat.le_of_ble_eq_true rfl) ⟨by decide, by decide⟩ dX8_fits_24 (aI1 (F := fun st M => P g X 1 27 [(0, .ref a0)] st _ _ M) (M := (K, len, I6, J, R)) fun x9_ I9 h9 => ?_)
    obtain ⟨hs9, hf9, k9_0, k9_1⟩ := h9
    show P g X 1 27 [(0, .ref a0)] [.int x9_] _ _ (K, len, I9, J, R)
    have hF9 : Fr K [(1, 5), (1, 6), (9, 12), (43, 999), (50, 999), (51, 999), (52, 999), (53, 999), (54, 999), (67, 999)] I I9 := hF6.trans hf9 rfl rfl
    have hc9 := k6_0.mv ka hf9 rfl
    exact r_iret hC hQ hlk hr rfl (by decide) (by decide) dX8_fits_27 ⟨_, _, rfl, rfl, ⟨hs9, hF9, (by exact hc9), (by omega)⟩⟩
set_option maxHeartbeats 4000000 in
set_option maxRecDepth 100000 in
theorem f_X8_fit (g : GG) (l : Launch) (K len : Nat → Nat) (I : Nat → Nat → Int32) (J : Nat → Nat → Int64) (R : Nat → Nat → Option Nat) (hs : Sf K len I R) (a0 : Nat) (ka0 : K a0 = 9) (x1 : Int32) (h : Nat) (hh : R a0 2 = some h) (kh : K h = 2) (lk : Nat) (hlk2 : R h 0 = some lk) (klk : K lk = 3) (rd : Nat) (hrd : R a0 9 = some rd) (krd : K rd = 4) (lv : Nat) (hlv : R a0 4 = some lv) (klv : K lv = 41) (llv : len lv = 60) (kn : Nat) (hkn : R a0 6 = some kn) (kkn : K kn = 43) (lkn : len kn = 6) (cr : Nat) (hcr : R a0 5 = some cr) (kcr1 : K cr = 44) (lcr : len cr = 6) (hu : UU K R) (D : DD) (E : Nat → Nat → Int) (hc : KC D E a0 h lk rd I R) : Ct g l yX8_fit cX8_fit 4 (Option.some Jvm.ClassFile.FieldType.int) rmX8_fit [.ref a0, .int x1] (K, len, I, J, R) (pI1 (K, len, I, J, R) (fun r I' => Sf K len I' R ∧ Fr K [(1, 5), (1, 6), (9, 12), (43, 999), (50, 999), (51, 999), (52, 999), (53, 999), (54, 999), (67, 999)] I I' ∧ (KC D E a0 h lk rd I' R) ∧ ((I' a0 12).toInt ≠ 4))) := by
  refine Ct_intro (by decide +kernel) (Nat.le_of_ble_eq_true rfl) (fun X hC hL hKK hNm hr hlk hQ => ?_)
  subst hL
  have hC : Cx g X cX8_fit "HillTap" 4 rmX8_fit := hC
  show P g X 4 0 [(0, .ref a0), (1, .int x1)] [] 0 0 (K, len, I, J, R)
  have hF : Fr K [(1, 5), (1, 6), (9, 12), (43, 999), (50, 999), (51, 999), (52, 999), (53, 999), (54, 999), (67, 999)] I I := Fr.refl
  have ka : KA a0 h lk rd K len R := ⟨⟨_, hs⟩, hu, ka0, kh, klk, krd⟩
  obtain ⟨sd1, sd2, sd3, sd4, sd5, sd7, sd8, sd9⟩ := id hc.2.1
  have d7b := hs.rng kh (k := 6) rfl (x := I h 6) rfl
  have d5b := hs.rng kh (k := 1) rfl (x := I h 1) rfl
  have d8b := hs.rng kh (k := 8) rfl (x := I h 8) rfl
  have b_x1 := ti_rng x1
  refine r_aload_n hC dX8_fit_0 0 rfl ?_
  refine r_callV hC (As := []) (rest := []) (ci := 8) (f_X8_findFits g (xL X) K len I J R hs a0 ka0 h hh kh lk hlk2 klk rd hrd krd lv hlv klv llv kn hkn kkn lkn cr hcr kcr1 lcr hu D E hc) mT_3_226 mT_1_1 mT_3_223 mT_3_225 mP_33 okX8_findFits ⟨by decide, by decide⟩ rfl (by show kO (K a0) = _; rw [ka0]; rfl) rfl rfl (Nat.le_of_ble_eq_true rfl) ⟨by decide, by decide⟩ dX8_fit_1 (aV1 (F := fun st M => P g X 4 4 [(0, .ref a0), (1, .int x1)] st _ _ M) (M := (K, len, I, J, R)) fun I1 h1 => ?_)
  obtain ⟨hs1, hf1, k1_0⟩ := h1
  show P g X 4 4 [(0, .ref a0), (1, .int x1)] [] _ _ (K, len, I1, J, R)
  have hF1 : Fr K [(1, 5), (1, 6), (9, 12), (43, 999), (50, 999), (51, 999), (52, 999), (53, 999), (54, 999), (67, 999)] I I1 := hF.trans hf1 rfl rfl
  refine r_iconst hC (v := (0)) dX8_fit_4 (by decide) (by decide) (fun x2_ e2 t2 => ?_)
  refine r_istore_n hC (lv' := [(2, .int x2_), (0, .ref a0), (1, .int x1)]) dX8_fit_5 (by decide) rfl ?_
  refine r_iconst hC (v := (0)) dX8_fit_6 (by decide) (by decide) (fun x3_ e3 t3 => ?_)
  refine r_istore_n hC (lv' := [(3, .int x3_), (2, .int x2_), (0, .ref a0), (1, .int x1)]) dX8_fit_7 (by decide) rfl ?_
  have LP4 : ∀ (mu : Nat) (x4_3 : Int32) (x4_2 : Int32) (I4 : Nat → Nat → Int32) (hs4 : Sf K len I4 R) (hF4 : Fr K [(1, 5), (1, 6), (9, 12), (43, 999), (50, 999), (51, 999), (52, 999), (53, 999), (54, 999), (67, 999)] I I4) (v4_0 : 0 ≤ x4_3.toInt) (v4_1 : x4_3.toInt ≤ 6) (v4_2 : KC D E a0 h lk rd I4 R), (6 - x4_3.toInt).toNat = mu → P g X 4 8 [(0, .ref a0), (1, .int x1), (2, .int x4_2), (3, .int x4_3)] [] 0 0 (K, len, I4, J, R) := by
    intro mu; induction mu using Nat.strongRecOn with | ind mu ih => ?_
    intro x4_3 x4_2 I4 hs4 hF4 v4_0 v4_1 v4_2 hmu
    have ih4 := ih
    clear ih
    have hmu4 := hmu
    clear hmu
    refine r_iload_n hC dX8_fit_8 3 rfl ?_
    refine r_aload_n hC dX8_fit_9 0 rfl ?_
    refine r_getr hC 2 (ci := 8) rfl u8_in (by decide) mT_2_80 dX8_fit_10 ka0 rfl rfl hh ?_
    refine r_geti hC 6 (ci := 1) rfl u1_in (by decide) mT_1_202 dX8_fit_13 kh rfl rfl (fun x5_ e5 => ?_)
    have r5 := hs4.rng kh rfl e5
    have f5 : x5_.toInt = (I4 h 6).toInt := by rw [e5]
    have sc5 : x5_.toInt = D 0 7 := by rw [e5]; exact v4_2.2.1.2.2.2.2.2.1
    refine r_icmp_ge hC (tgt := 47) dX8_fit_16 (by decide) (fun c6 => ?_) (fun c6 => ?_)
    · refine r_aload_n hC dX8_fit_47 0 rfl ?_
      refine r_iconst hC (v := (1)) dX8_fit_48 (by decide) (by decide) (fun x7_ e7 t7 => ?_)
      refine r_callV hC (As := [.int x7_]) (rest := []) (ci := 8) (c_X8_refuse g (xL X) K len I4 J R hs4 a0 ka0 x7_) mT_2_133 mT_1_1 mT_2_130 mT_2_132 mP_0 okX8_refuse ⟨by decide, by decide⟩ rfl (by show kO (K a0) = _; rw [ka0]; rfl) rfl rfl (Nat.le_of_ble_eq_true rfl) ⟨by decide, by decide⟩ dX8_fit_49 (aI1 (F := fun st M => P g X 4 52 [(0, .ref a0), (1, .int x1), (2, .int x4_2), (3, .int x4_3)] st _ _ M) (M := (K, len, I4, J, R)) fun x8_ I8 h8 => ?_)
      obtain ⟨hs8, hf8, k8_0, k8_1⟩ := h8
      show P g X 4 52 [(0, .ref a0), (1, .int x1), (2, .int x4_2), (3, .int x4_3)] [.int x8_] _ _ (K, len, I8, J, R)
      have hF8 : Fr K [(1, 5), (1, 6), (9, 12), (43, 999), (50, 999), (51, 999), (52, 999), (53, 999), (54, 999), (67, 999)] I I8 := hF4.trans hf8 rfl rfl
      have hc8 := v4_2.mv ka hf8 rfl
      exact r_iret hC hQ hlk hr rfl (by decide) (by decide) dX8_fit_52 ⟨_, _, rfl, rfl, ⟨hs8, hF8, (by exact hc8), (by omega)⟩⟩
    · refine r_aload_n hC dX8_fit_19 0 rfl ?_
      refine r_iload_n hC dX8_fit_20 3 rfl ?_
      refine r_callV hC (As := [.int x4_3]) (rest := []) (ci := 8) (c_X8_isFit g (xL X) K len I4 J R hs4 a0 ka0 x4_3 (by omega) (by omega)) mT_4_7 mT_1_1 mT_4_4 mT_4_6 mP_35 okX8_isFit ⟨by decide, by decide⟩ rfl (by show kO (K a0) = _; rw [ka0]; rfl) rfl rfl (Nat.le_of_ble_eq_true rfl) ⟨by decide, by decide⟩ dX8_fit_21 (aI0 (F := fun st M => P g X 4 24 [(0, .ref a0), (1, .int x1), (2, .int x4_2), (3, .int x4_3)] st _ _ M) (M := (K, len, I4, J, R)) fun x9_ h9 => ?_)
      obtain ⟨k9_0, k9_1⟩ := h9
      show P g X 4 24 [(0, .ref a0), (1, .int x1), (2, .int x4_2), (3, .int x4_3)] [.int x9_] _ _ (K, len, I4, J, R)
      refine r_if_eq hC (tgt := 41) dX8_fit_24 (by decide) (fun c10 => ?_) (fun c10 => ?_)
      · obtain ⟨x11_, e11⟩ : ∃ z : Int32, z = x4_3 + Int32.ofInt (1) := ⟨_, rfl⟩
        refine r_iinc hC (j := 3) (v := x11_) (lv' := [(3, .int x11_), (0, .ref a0), (1, .int x1), (2, .int x4_2)]) dX8_fit_41 rfl (by rw [e11]) (by decide) rfl ?_
        try have t11 : x11_.toInt = x4_3.toInt + (1) := by rw [e11]; exact (ti_add (b := Int32.ofInt (1)) (by show _ ≤ _ + (1 : Int); omega) (by show _ + (1 : Int) ≤ _; omega))
        refine r_goto hC (tgt := 8) dX8_fit_44 (by decide) ?_
        refine r_sub [1, 2, 3, 0] rfl ?_
        exact ih4 ((6 - x11_.toInt).toNat) (by omega) x11_ x4_2 I4 hs4 hF4 (by omega) (by omega) (by exact v4_2) rfl
      · refine r_iload_n hC dX8_fit_27 2 rfl ?_
        refine r_iload_n hC dX8_fit_28 1 rfl ?_
        refine r_icmp_ne hC (tgt := 38) dX8_fit_29 (by decide) (fun c12 => ?_) (fun c12 => ?_)
        · obtain ⟨x13_, e13⟩ : ∃ z : Int32, z = x4_2 + Int32.ofInt (1) := ⟨_, rfl⟩
          refine r_iinc hC (j := 2) (v := x13_) (lv' := [(2, .int x13_), (0, .ref a0), (1, .int x1), (3, .int x4_3)]) dX8_fit_38 rfl (by rw [e13]) (by decide) rfl ?_
          try have t13 : x13_.toInt = x4_2.toInt + (1) := by rw [e13]; exact (ti_add (b := Int32.ofInt (1)) (by show _ ≤ _ + (1 : Int); omega) (by show _ + (1 : Int) ≤ _; omega))
          obtain ⟨x14_, e14⟩ : ∃ z : Int32, z = x4_3 + Int32.ofInt (1) := ⟨_, rfl⟩
          refine r_iinc hC (j := 3) (v := x14_) (lv' := [(3, .int x14_), (2, .int x13_), (0, .ref a0), (1, .int x1)]) dX8_fit_41 rfl (by rw [e14]) (by decide) rfl ?_
          try have t14 : x14_.toInt = x4_3.toInt + (1) := by rw [e14]; exact (ti_add (b := Int32.ofInt (1)) (by show _ ≤ _ + (1 : Int); omega) (by show _ + (1 : Int) ≤ _; omega))
          refine r_goto hC (tgt := 8) dX8_fit_44 (by decide) ?_
          refine r_sub [2, 3, 1, 0] rfl ?_
          exact ih4 ((6 - x14_.toInt).toNat) (by omega) x14_ x13_ I4 hs4 hF4 (by omega) (by omega) (by exact v4_2) rfl
        · refine r_aload_n hC dX8_fit_32 0 rfl ?_
          refine r_iload_n hC dX8_fit_33 3 rfl ?_
          refine r_callV hC (As := [.int x4_3]) (rest := []) (ci := 8) (c_X8_answer g (xL X) K len I4 J R hs4 a0 ka0 x4_3) mT_3_115 mT_1_1 mT_3_112 mT_3_114 mP_21 okX8_answer ⟨by decide, by decide⟩ rfl (by show kO (K a0) = _; rw [ka0]; rfl) rfl rfl (Nat.le_of_ble_eq_true rfl) ⟨by decide, by decide⟩ dX8_fit_34 (aI1 (F := fun st M => P g X 4 37 [(0, .ref a0), (1, .int x1), (2, .int x4_2), (3, .int x4_3)] st _ _ M) (M := (K, len, I4, J, R)) fun x15_ I15 h15 => ?_)
          obtain ⟨hs15, hf15, k15_0, k15_1⟩ := h15
          show P g X 4 37 [(0, .ref a0), (1, .int x1), (2, .int x4_2), (3, .int x4_3)] [.int x15_] _ _ (K, len, I15, J, R)
          have hF15 : Fr K [(1, 5), (1, 6), (9, 12), (43, 999), (50, 999), (51, 999), (52, 999), (53, 999), (54, 999), (67, 999)] I I15 := hF4.trans hf15 rfl rfl
          have hc15 := v4_2.mv ka hf15 rfl
          exact r_iret hC hQ hlk hr rfl (by decide) (by decide) dX8_fit_37 ⟨_, _, rfl, rfl, ⟨hs15, hF15, (by exact hc15), (by omega)⟩⟩
  refine r_sub [2, 3, 1, 0] rfl ?_
  exact LP4 _ x3_ x2_ I1 hs1 hF1 (by omega) (by omega) (by exact k1_0) rfl
set_option maxHeartbeats 4000000 in
set_option maxRecDepth 100000 in
theorem f_X8_weight (g : GG) (l : Launch) (K len : Nat → Nat) (I : Nat → Nat → Int32) (J : Nat → Nat → Int64) (R : Nat → Nat → Option Nat) (hs : Sf K len I R) (a0 : Nat) (ka0 : K a0 = 9) (x1 : Int32) (h : Nat) (hh : R a0 2 = some h) (kh : K h = 2) (lk : Nat) (hlk2 : R h 0 = some lk) (klk : K lk = 3) (rd : Nat) (hrd : R a0 9 = some rd) (krd : K rd = 4) (lv : Nat) (hlv : R a0 4 = some lv) (klv : K lv = 41) (llv : len lv = 60) (kn : Nat) (hkn : R a0 6 = some kn) (kkn : K kn = 43) (lkn : len kn = 6) (cr : Nat) (hcr : R a0 5 = some cr) (kcr1 : K cr = 44) (lcr : len cr = 6) (hu : UU K R) (D : DD) (E : Nat → Nat → Int) (hc : KC D E a0 h lk rd I R) : Ct g l yX8_weight cX8_weight 2 (Option.some Jvm.ClassFile.FieldType.int) rmX8_weight [.ref a0, .int x1] (K, len, I, J, R) (pI1 (K, len, I, J, R) (fun r I' => Sf K len I' R ∧ Fr K [(1, 5), (1, 6), (9, 12), (43, 999), (50, 999), (51, 999), (52, 999), (53, 999), (54, 999), (67, 999)] I I' ∧ (KC D E a0 h lk rd I' R) ∧ ((I' a0 12).toInt ≠ 4))) := by
  refine Ct_intro (by decide +kernel) (Nat.le_of_ble_eq_true rfl) (fun X hC hL hKK hNm hr hlk hQ => ?_)
  subst hL
  have hC : Cx g X cX8_weight "HillTap" 2 rmX8_weight := hC
  show P g X 2 0 [(0, .ref a0), (1, .int x1)] [] 0 0 (K, len, I, J, R)
  have hF : Fr K [(1, 5), (1, 6), (9, 12), (43, 999), (50, 999), (51, 999), (52, 999), (53, 999), (54, 999), (67, 999)] I I := Fr.refl
  have ka : KA a0 h lk rd K len R := ⟨⟨_, hs⟩, hu, ka0, kh, klk, krd⟩
  obtain ⟨sd1, sd2, sd3, sd4, sd5, sd7, sd8, sd9⟩ := id hc.2.1
  have d7b := hs.rng kh (k := 6) rfl (x := I h 6) rfl
  have d5b := hs.rng kh (k := 1) rfl (x := I h 1) rfl
  have d8b := hs.rng kh (k := 8) rfl (x := I h 8) rfl
  have b_x1 := ti_rng x1
  refine r_iload_n hC dX8_weight_0 1 rfl ?_
  refine r_iconst hC (v := (-1)) dX8_weight_1 (by decide) (by decide) (fun x1_ e1 t1 => ?_)
  refine r_icmp_eq hC (tgt := 19) dX8_weight_2 (by decide) (fun c2 => ?_) (fun c2 => ?_)
  · refine r_aload_n hC dX8_weight_19 0 rfl ?_
    refine r_callV hC (As := []) (rest := []) (ci := 8) (f_X8_findFits g (xL X) K len I J R hs a0 ka0 h hh kh lk hlk2 klk rd hrd krd lv hlv klv llv kn hkn kkn lkn cr hcr kcr1 lcr hu D E hc) mT_3_226 mT_1_1 mT_3_223 mT_3_225 mP_33 okX8_findFits ⟨by decide, by decide⟩ rfl (by show kO (K a0) = _; rw [ka0]; rfl) rfl rfl (Nat.le_of_ble_eq_true rfl) ⟨by decide, by decide⟩ dX8_weight_20 (aV1 (F := fun st M => P g X 2 23 [(0, .ref a0), (1, .int x1)] st _ _ M) (M := (K, len, I, J, R)) fun I3 h3 => ?_)
    obtain ⟨hs3, hf3, k3_0⟩ := h3
    show P g X 2 23 [(0, .ref a0), (1, .int x1)] [] _ _ (K, len, I3, J, R)
    have hF3 : Fr K [(1, 5), (1, 6), (9, 12), (43, 999), (50, 999), (51, 999), (52, 999), (53, 999), (54, 999), (67, 999)] I I3 := hF.trans hf3 rfl rfl
    refine r_iload_n hC dX8_weight_23 1 rfl ?_
    refine r_iconst hC (v := (-1)) dX8_weight_24 (by decide) (by decide) (fun x4_ e4 t4 => ?_)
    refine r_icmp_ne hC (tgt := 37) dX8_weight_25 (by decide) (fun c5 => ?_) (fun c5 => ?_)
    · refine r_aload_n hC dX8_weight_37 0 rfl ?_
      refine r_aload_n hC dX8_weight_38 0 rfl ?_
      refine r_iload_n hC dX8_weight_39 1 rfl ?_
      refine r_callV hC (As := [.int x1]) (rest := [.ref a0]) (ci := 8) (c_X8_isFit g (xL X) K len I3 J R hs3 a0 ka0 x1 (by omega) (by omega)) mT_4_7 mT_1_1 mT_4_4 mT_4_6 mP_35 okX8_isFit ⟨by decide, by decide⟩ rfl (by show kO (K a0) = _; rw [ka0]; rfl) rfl rfl (Nat.le_of_ble_eq_true rfl) ⟨by decide, by decide⟩ dX8_weight_40 (aI0 (F := fun st M => P g X 2 43 [(0, .ref a0), (1, .int x1)] st _ _ M) (M := (K, len, I3, J, R)) fun x6_ h6 => ?_)
      obtain ⟨k6_0, k6_1⟩ := h6
      show P g X 2 43 [(0, .ref a0), (1, .int x1)] [.int x6_, .ref a0] _ _ (K, len, I3, J, R)
      refine r_if_eq hC (tgt := 61) dX8_weight_43 (by decide) (fun c7 => ?_) (fun c7 => ?_)
      · refine r_iconst hC (v := (0)) dX8_weight_61 (by decide) (by decide) (fun x8_ e8 t8 => ?_)
        refine r_callV hC (As := [.int x8_]) (rest := []) (ci := 8) (c_X8_answer g (xL X) K len I3 J R hs3 a0 ka0 x8_) mT_3_115 mT_1_1 mT_3_112 mT_3_114 mP_21 okX8_answer ⟨by decide, by decide⟩ rfl (by show kO (K a0) = _; rw [ka0]; rfl) rfl rfl (Nat.le_of_ble_eq_true rfl) ⟨by decide, by decide⟩ dX8_weight_62 (aI1 (F := fun st M => P g X 2 65 [(0, .ref a0), (1, .int x1)] st _ _ M) (M := (K, len, I3, J, R)) fun x9_ I9 h9 => ?_)
        obtain ⟨hs9, hf9, k9_0, k9_1⟩ := h9
        show P g X 2 65 [(0, .ref a0), (1, .int x1)] [.int x9_] _ _ (K, len, I9, J, R)
        have hF9 : Fr K [(1, 5), (1, 6), (9, 12), (43, 999), (50, 999), (51, 999), (52, 999), (53, 999), (54, 999), (67, 999)] I I9 := hF3.trans hf9 rfl rfl
        have hc9 := k3_0.mv ka hf9 rfl
        exact r_iret hC hQ hlk hr rfl (by decide) (by decide) dX8_weight_65 ⟨_, _, rfl, rfl, ⟨hs9, hF9, (by exact hc9), (by omega)⟩⟩
      · refine r_aload_n hC dX8_weight_46 0 rfl ?_
        refine r_getr hC 2 (ci := 8) rfl u8_in (by decide) mT_2_80 dX8_weight_47 ka0 rfl rfl hh ?_
        obtain ⟨a10_, hb10, hk10, hn10⟩ := hs3.row kh 7 45 6 (by decide) (by decide)
        refine r_getr hC 7 (ci := 1) rfl u1_in (by decide) mT_1_205 dX8_weight_50 kh rfl rfl hb10 ?_
        refine r_iload_n hC dX8_weight_53 1 rfl ?_
        obtain ⟨a11_, hb11, hk11⟩ := hs3.sto hk10 (i := x1) (by omega) (by omega)
        refine x_aaload (C := "HillTap$Story") hC hk10 hn10 (by decide) rfl (by decide) dX8_weight_54 (by omega) (by omega) hb11 ?_
        refine r_geti hC 0 (ci := 4) rfl u4_in (by decide) mT_1_161 dX8_weight_55 hk11 rfl rfl (fun x12_ e12 => ?_)
        have f12 : x12_.toInt = (I3 a11_ 0).toInt := by rw [e12]
        have q12 : x12_.toInt = D 6 x1.toInt.toNat := by rw [e12]; exact (k3_0.sto hb10 (by rw [← clx (i := x1) rfl (by omega)]; exact hb11) (by omega) (by omega)).1
        have jb12 : 0 ≤ D 6 x1.toInt.toNat ∧ D 6 x1.toInt.toNat ≤ 99 := ((k3_0.2.2.1 (by omega)).1).2.2.2.1 6 _ (by decide) (by decide) (by decide)
        refine r_goto hC (tgt := 62) dX8_weight_58 (by decide) ?_
        refine r_callV hC (As := [.int x12_]) (rest := []) (ci := 8) (c_X8_answer g (xL X) K len I3 J R hs3 a0 ka0 x12_) mT_3_115 mT_1_1 mT_3_112 mT_3_114 mP_21 okX8_answer ⟨by decide, by decide⟩ rfl (by show kO (K a0) = _; rw [ka0]; rfl) rfl rfl (Nat.le_of_ble_eq_true rfl) ⟨by decide, by decide⟩ dX8_weight_62 (aI1 (F := fun st M => P g X 2 65 [(0, .ref a0), (1, .int x1)] st _ _ M) (M := (K, len, I3, J, R)) fun x13_ I13 h13 => ?_)
        obtain ⟨hs13, hf13, k13_0, k13_1⟩ := h13
        show P g X 2 65 [(0, .ref a0), (1, .int x1)] [.int x13_] _ _ (K, len, I13, J, R)
        have hF13 : Fr K [(1, 5), (1, 6), (9, 12), (43, 999), (50, 999), (51, 999), (52, 999), (53, 999), (54, 999), (67, 999)] I I13 := hF3.trans hf13 rfl rfl
        have hc13 := k3_0.mv ka hf13 rfl
        exact r_iret hC hQ hlk hr rfl (by decide) (by decide) dX8_weight_65 ⟨_, _, rfl, rfl, ⟨hs13, hF13, (by exact hc13), (by omega)⟩⟩
    · refine r_aload_n hC dX8_weight_28 0 rfl ?_
      refine r_aload_n hC dX8_weight_29 0 rfl ?_
      refine r_callV hC (As := []) (rest := [.ref a0]) (ci := 8) (c_X8_weightOfFits g (xL X) K len I3 J R hs3 a0 ka0) mT_4_15 mT_1_1 mT_4_12 mT_4_14 mP_36 okX8_weightOfFits ⟨by decide, by decide⟩ rfl (by show kO (K a0) = _; rw [ka0]; rfl) rfl rfl (Nat.le_of_ble_eq_true rfl) ⟨by decide, by decide⟩ dX8_weight_30 (aI0 (F := fun st M => P g X 2 33 [(0, .ref a0), (1, .int x1)] st _ _ M) (M := (K, len, I3, J, R)) fun x14_ h14 => ?_)
      skip
      show P g X 2 33 [(0, .ref a0), (1, .int x1)] [.int x14_, .ref a0] _ _ (K, len, I3, J, R)
      refine r_callV hC (As := [.int x14_]) (rest := []) (ci := 8) (c_X8_answer g (xL X) K len I3 J R hs3 a0 ka0 x14_) mT_3_115 mT_1_1 mT_3_112 mT_3_114 mP_21 okX8_answer ⟨by decide, by decide⟩ rfl (by show kO (K a0) = _; rw [ka0]; rfl) rfl rfl (Nat.le_of_ble_eq_true rfl) ⟨by decide, by decide⟩ dX8_weight_33 (aI1 (F := fun st M => P g X 2 36 [(0, .ref a0), (1, .int x1)] st _ _ M) (M := (K, len, I3, J, R)) fun x15_ I15 h15 => ?_)
      obtain ⟨hs15, hf15, k15_0, k15_1⟩ := h15
      show P g X 2 36 [(0, .ref a0), (1, .int x1)] [.int x15_] _ _ (K, len, I15, J, R)
      have hF15 : Fr K [(1, 5), (1, 6), (9, 12), (43, 999), (50, 999), (51, 999), (52, 999), (53, 999), (54, 999), (67, 999)] I I15 := hF3.trans hf15 rfl rfl
      have hc15 := k3_0.mv ka hf15 rfl
      exact r_iret hC hQ hlk hr rfl (by decide) (by decide) dX8_weight_36 ⟨_, _, rfl, rfl, ⟨hs15, hF15, (by exact hc15), (by omega)⟩⟩
  · refine r_aload_n hC dX8_weight_5 0 rfl ?_
    refine r_iload_n hC dX8_weight_6 1 rfl ?_
    refine r_callV hC (As := [.int x1]) (rest := []) (ci := 8) (f_X8_isStory g (xL X) K len I J R hs a0 ka0 x1 h hh kh) mT_3_155 mT_1_1 mT_3_152 mT_3_154 mP_24 okX8_isStory ⟨by decide, by decide⟩ rfl (by show kO (K a0) = _; rw [ka0]; rfl) rfl rfl (Nat.le_of_ble_eq_true rfl) ⟨by decide, by decide⟩ dX8_weight_7 (aI0 (F := fun st M => P g X 2 10 [(0, .ref a0), (1, .int x1)] st _ _ M) (M := (K, len, I, J, R)) fun x16_ h16 => ?_)
    have k16_0 := h16
    clear h16
    show P g X 2 10 [(0, .ref a0), (1, .int x1)] [.int x16_] _ _ (K, len, I, J, R)
    rcases k16_0 with ⟨hr16, hw16⟩ | ⟨hr16, hw16⟩
    · refine r_if_ne hC (tgt := 19) dX8_weight_10 (by decide) (fun c17 => ?_) (fun c17 => ?_)
      rotate_left
      · exfalso; omega
      refine r_aload_n hC dX8_weight_19 0 rfl ?_
      refine r_callV hC (As := []) (rest := []) (ci := 8) (f_X8_findFits g (xL X) K len I J R hs a0 ka0 h hh kh lk hlk2 klk rd hrd krd lv hlv klv llv kn hkn kkn lkn cr hcr kcr1 lcr hu D E hc) mT_3_226 mT_1_1 mT_3_223 mT_3_225 mP_33 okX8_findFits ⟨by decide, by decide⟩ rfl (by show kO (K a0) = _; rw [ka0]; rfl) rfl rfl (Nat.le_of_ble_eq_true rfl) ⟨by decide, by decide⟩ dX8_weight_20 (aV1 (F := fun st M => P g X 2 23 [(0, .ref a0), (1, .int x1)] st _ _ M) (M := (K, len, I, J, R)) fun I18 h18 => ?_)
      obtain ⟨hs18, hf18, k18_0⟩ := h18
      show P g X 2 23 [(0, .ref a0), (1, .int x1)] [] _ _ (K, len, I18, J, R)
      have hF18 : Fr K [(1, 5), (1, 6), (9, 12), (43, 999), (50, 999), (51, 999), (52, 999), (53, 999), (54, 999), (67, 999)] I I18 := hF.trans hf18 rfl rfl
      refine r_iload_n hC dX8_weight_23 1 rfl ?_
      refine r_iconst hC (v := (-1)) dX8_weight_24 (by decide) (by decide) (fun x19_ e19 t19 => ?_)
      refine r_icmp_ne hC (tgt := 37) dX8_weight_25 (by decide) (fun c20 => ?_) (fun c20 => ?_)
      · refine r_aload_n hC dX8_weight_37 0 rfl ?_
        refine r_aload_n hC dX8_weight_38 0 rfl ?_
        refine r_iload_n hC dX8_weight_39 1 rfl ?_
        refine r_callV hC (As := [.int x1]) (rest := [.ref a0]) (ci := 8) (c_X8_isFit g (xL X) K len I18 J R hs18 a0 ka0 x1 (by omega) (by omega)) mT_4_7 mT_1_1 mT_4_4 mT_4_6 mP_35 okX8_isFit ⟨by decide, by decide⟩ rfl (by show kO (K a0) = _; rw [ka0]; rfl) rfl rfl (Nat.le_of_ble_eq_true rfl) ⟨by decide, by decide⟩ dX8_weight_40 (aI0 (F := fun st M => P g X 2 43 [(0, .ref a0), (1, .int x1)] st _ _ M) (M := (K, len, I18, J, R)) fun x21_ h21 => ?_)
        obtain ⟨k21_0, k21_1⟩ := h21
        show P g X 2 43 [(0, .ref a0), (1, .int x1)] [.int x21_, .ref a0] _ _ (K, len, I18, J, R)
        refine r_if_eq hC (tgt := 61) dX8_weight_43 (by decide) (fun c22 => ?_) (fun c22 => ?_)
        · refine r_iconst hC (v := (0)) dX8_weight_61 (by decide) (by decide) (fun x23_ e23 t23 => ?_)
          refine r_callV hC (As := [.int x23_]) (rest := []) (ci := 8) (c_X8_answer g (xL X) K len I18 J R hs18 a0 ka0 x23_) mT_3_115 mT_1_1 mT_3_112 mT_3_114 mP_21 okX8_answer ⟨by decide, by decide⟩ rfl (by show kO (K a0) = _; rw [ka0]; rfl) rfl rfl (Nat.le_of_ble_eq_true rfl) ⟨by decide, by decide⟩ dX8_weight_62 (aI1 (F := fun st M => P g X 2 65 [(0, .ref a0), (1, .int x1)] st _ _ M) (M := (K, len, I18, J, R)) fun x24_ I24 h24 => ?_)
          obtain ⟨hs24, hf24, k24_0, k24_1⟩ := h24
          show P g X 2 65 [(0, .ref a0), (1, .int x1)] [.int x24_] _ _ (K, len, I24, J, R)
          have hF24 : Fr K [(1, 5), (1, 6), (9, 12), (43, 999), (50, 999), (51, 999), (52, 999), (53, 999), (54, 999), (67, 999)] I I24 := hF18.trans hf24 rfl rfl
          have hc24 := k18_0.mv ka hf24 rfl
          exact r_iret hC hQ hlk hr rfl (by decide) (by decide) dX8_weight_65 ⟨_, _, rfl, rfl, ⟨hs24, hF24, (by exact hc24), (by omega)⟩⟩
        · refine r_aload_n hC dX8_weight_46 0 rfl ?_
          refine r_getr hC 2 (ci := 8) rfl u8_in (by decide) mT_2_80 dX8_weight_47 ka0 rfl rfl hh ?_
          obtain ⟨a25_, hb25, hk25, hn25⟩ := hs18.row kh 7 45 6 (by decide) (by decide)
          refine r_getr hC 7 (ci := 1) rfl u1_in (by decide) mT_1_205 dX8_weight_50 kh rfl rfl hb25 ?_
          refine r_iload_n hC dX8_weight_53 1 rfl ?_
          obtain ⟨a26_, hb26, hk26⟩ := hs18.sto hk25 (i := x1) (by omega) (by omega)
          refine x_aaload (C := "HillTap$Story") hC hk25 hn25 (by decide) rfl (by decide) dX8_weight_54 (by omega) (by omega) hb26 ?_
          refine r_geti hC 0 (ci := 4) rfl u4_in (by decide) mT_1_161 dX8_weight_55 hk26 rfl rfl (fun x27_ e27 => ?_)
          have f27 : x27_.toInt = (I18 a26_ 0).toInt := by rw [e27]
          have q27 : x27_.toInt = D 6 x1.toInt.toNat := by rw [e27]; exact (k18_0.sto hb25 (by rw [← clx (i := x1) rfl (by omega)]; exact hb26) (by omega) (by omega)).1
          have jb27 : 0 ≤ D 6 x1.toInt.toNat ∧ D 6 x1.toInt.toNat ≤ 99 := ((k18_0.2.2.1 (by omega)).1).2.2.2.1 6 _ (by decide) (by decide) (by decide)
          refine r_goto hC (tgt := 62) dX8_weight_58 (by decide) ?_
          refine r_callV hC (As := [.int x27_]) (rest := []) (ci := 8) (c_X8_answer g (xL X) K len I18 J R hs18 a0 ka0 x27_) mT_3_115 mT_1_1 mT_3_112 mT_3_114 mP_21 okX8_answer ⟨by decide, by decide⟩ rfl (by show kO (K a0) = _; rw [ka0]; rfl) rfl rfl (Nat.le_of_ble_eq_true rfl) ⟨by decide, by decide⟩ dX8_weight_62 (aI1 (F := fun st M => P g X 2 65 [(0, .ref a0), (1, .int x1)] st _ _ M) (M := (K, len, I18, J, R)) fun x28_ I28 h28 => ?_)
          obtain ⟨hs28, hf28, k28_0, k28_1⟩ := h28
          show P g X 2 65 [(0, .ref a0), (1, .int x1)] [.int x28_] _ _ (K, len, I28, J, R)
          have hF28 : Fr K [(1, 5), (1, 6), (9, 12), (43, 999), (50, 999), (51, 999), (52, 999), (53, 999), (54, 999), (67, 999)] I I28 := hF18.trans hf28 rfl rfl
          have hc28 := k18_0.mv ka hf28 rfl
          exact r_iret hC hQ hlk hr rfl (by decide) (by decide) dX8_weight_65 ⟨_, _, rfl, rfl, ⟨hs28, hF28, (by exact hc28), (by omega)⟩⟩
      · refine r_aload_n hC dX8_weight_28 0 rfl ?_
        refine r_aload_n hC dX8_weight_29 0 rfl ?_
        refine r_callV hC (As := []) (rest := [.ref a0]) (ci := 8) (c_X8_weightOfFits g (xL X) K len I18 J R hs18 a0 ka0) mT_4_15 mT_1_1 mT_4_12 mT_4_14 mP_36 okX8_weightOfFits ⟨by decide, by decide⟩ rfl (by show kO (K a0) = _; rw [ka0]; rfl) rfl rfl (Nat.le_of_ble_eq_true rfl) ⟨by decide, by decide⟩ dX8_weight_30 (aI0 (F := fun st M => P g X 2 33 [(0, .ref a0), (1, .int x1)] st _ _ M) (M := (K, len, I18, J, R)) fun x29_ h29 => ?_)
        skip
        show P g X 2 33 [(0, .ref a0), (1, .int x1)] [.int x29_, .ref a0] _ _ (K, len, I18, J, R)
        refine r_callV hC (As := [.int x29_]) (rest := []) (ci := 8) (c_X8_answer g (xL X) K len I18 J R hs18 a0 ka0 x29_) mT_3_115 mT_1_1 mT_3_112 mT_3_114 mP_21 okX8_answer ⟨by decide, by decide⟩ rfl (by show kO (K a0) = _; rw [ka0]; rfl) rfl rfl (Nat.le_of_ble_eq_true rfl) ⟨by decide, by decide⟩ dX8_weight_33 (aI1 (F := fun st M => P g X 2 36 [(0, .ref a0), (1, .int x1)] st _ _ M) (M := (K, len, I18, J, R)) fun x30_ I30 h30 => ?_)
        obtain ⟨hs30, hf30, k30_0, k30_1⟩ := h30
        show P g X 2 36 [(0, .ref a0), (1, .int x1)] [.int x30_] _ _ (K, len, I30, J, R)
        have hF30 : Fr K [(1, 5), (1, 6), (9, 12), (43, 999), (50, 999), (51, 999), (52, 999), (53, 999), (54, 999), (67, 999)] I I30 := hF18.trans hf30 rfl rfl
        have hc30 := k18_0.mv ka hf30 rfl
        exact r_iret hC hQ hlk hr rfl (by decide) (by decide) dX8_weight_36 ⟨_, _, rfl, rfl, ⟨hs30, hF30, (by exact hc30), (by omega)⟩⟩
    · refine r_if_ne hC (tgt := 19) dX8_weight_10 (by decide) (fun c31 => ?_) (fun c31 => ?_)
      · exfalso; omega
      refine r_aload_n hC dX8_weight_13 0 rfl ?_
      refine r_iconst hC (v := (1)) dX8_weight_14 (by decide) (by decide) (fun x32_ e32 t32 => ?_)
      refine r_callV hC (As := [.int x32_]) (rest := []) (ci := 8) (c_X8_refuse g (xL X) K len I J R hs a0 ka0 x32_) mT_2_133 mT_1_1 mT_2_130 mT_2_132 mP_0 okX8_refuse ⟨by decide, by decide⟩ rfl (by show kO (K a0) = _; rw [ka0]; rfl) rfl rfl (Nat.le_of_ble_eq_true rfl) ⟨by decide, by decide⟩ dX8_weight_15 (aI1 (F := fun st M => P g X 2 18 [(0, .ref a0), (1, .int x1)] st _ _ M) (M := (K, len, I, J, R)) fun x33_ I33 h33 => ?_)
      obtain ⟨hs33, hf33, k33_0, k33_1⟩ := h33
      show P g X 2 18 [(0, .ref a0), (1, .int x1)] [.int x33_] _ _ (K, len, I33, J, R)
      have hF33 : Fr K [(1, 5), (1, 6), (9, 12), (43, 999), (50, 999), (51, 999), (52, 999), (53, 999), (54, 999), (67, 999)] I I33 := hF.trans hf33 rfl rfl
      have hc33 := hc.mv ka hf33 rfl
      exact r_iret hC hQ hlk hr rfl (by decide) (by decide) dX8_weight_18 ⟨_, _, rfl, rfl, ⟨hs33, hF33, (by exact hc33), (by omega)⟩⟩
set_option maxHeartbeats 4000000 in
set_option maxRecDepth 100000 in
theorem f_X8_clear (g : GG) (l : Launch) (K len : Nat → Nat) (I : Nat → Nat → Int32) (J : Nat → Nat → Int64) (R : Nat → Nat → Option Nat) (hs : Sf K len I R) (a0 : Nat) (ka0 : K a0 = 9) (h : Nat) (hh : R a0 2 = some h) (kh : K h = 2) (lk : Nat) (hlk2 : R h 0 = some lk) (klk : K lk = 3) (rd : Nat) (hrd : R a0 9 = some rd) (krd : K rd = 4) (lv : Nat) (hlv : R a0 4 = some lv) (klv : K lv = 41) (llv : len lv = 60) (kn : Nat) (hkn : R a0 6 = some kn) (kkn : K kn = 43) (lkn : len kn = 6) (cr : Nat) (hcr : R a0 5 = some cr) (kcr1 : K cr = 44) (lcr : len cr = 6) (hu : UU K R) (D : DD) (E : Nat → Nat → Int) (hc : KC D E a0 h lk rd I R) : Ct g l yX8_clear cX8_clear 2 (Option.some Jvm.ClassFile.FieldType.int) rmX8_clear [.ref a0] (K, len, I, J, R) (pI1 (K, len, I, J, R) (fun r I' => Sf K len I' R ∧ Fr K [(1, 5), (1, 6), (9, 12), (43, 999), (50, 999), (51, 999), (52, 999), (53, 999), (54, 999), (67, 999)] I I' ∧ (KC D E a0 h lk rd I' R) ∧ ((I' a0 12).toInt ≠ 4))) := by
  refine Ct_intro (by decide +kernel) (Nat.le_of_ble_eq_true rfl) (fun X hC hL hKK hNm hr hlk hQ => ?_)
  subst hL
  have hC : Cx g X cX8_clear "HillTap" 2 rmX8_clear := hC
  show P g X 2 0 [(0, .ref a0)] [] 0 0 (K, len, I, J, R)
  have hF : Fr K [(1, 5), (1, 6), (9, 12), (43, 999), (50, 999), (51, 999), (52, 999), (53, 999), (54, 999), (67, 999)] I I := Fr.refl
  have ka : KA a0 h lk rd K len R := ⟨⟨_, hs⟩, hu, ka0, kh, klk, krd⟩
  obtain ⟨sd1, sd2, sd3, sd4, sd5, sd7, sd8, sd9⟩ := id hc.2.1
  have d7b := hs.rng kh (k := 6) rfl (x := I h 6) rfl
  have d5b := hs.rng kh (k := 1) rfl (x := I h 1) rfl
  have d8b := hs.rng kh (k := 8) rfl (x := I h 8) rfl
  refine r_aload_n hC dX8_clear_0 0 rfl ?_
  refine r_callV hC (As := []) (rest := []) (ci := 8) (f_X8_noHill g (xL X) K len I J R hs a0 ka0 h hh kh) mT_3_131 mT_1_1 mT_3_128 mT_3_130 mP_22 okX8_noHill ⟨by decide, by decide⟩ rfl (by show kO (K a0) = _; rw [ka0]; rfl) rfl rfl (Nat.le_of_ble_eq_true rfl) ⟨by decide, by decide⟩ dX8_clear_1 (aI0 (F := fun st M => P g X 2 4 [(0, .ref a0)] st _ _ M) (M := (K, len, I, J, R)) fun x1_ h1 => ?_)
  have k1_0 := h1
  clear h1
  show P g X 2 4 [(0, .ref a0)] [.int x1_] _ _ (K, len, I, J, R)
  rcases k1_0 with ⟨hr1, hw1⟩ | ⟨hr1, hw1⟩
  · refine r_if_eq hC (tgt := 13) dX8_clear_4 (by decide) (fun c2 => ?_) (fun c2 => ?_)
    · exfalso; omega
    refine r_aload_n hC dX8_clear_7 0 rfl ?_
    refine r_iconst hC (v := (1)) dX8_clear_8 (by decide) (by decide) (fun x3_ e3 t3 => ?_)
    refine r_callV hC (As := [.int x3_]) (rest := []) (ci := 8) (c_X8_refuse g (xL X) K len I J R hs a0 ka0 x3_) mT_2_133 mT_1_1 mT_2_130 mT_2_132 mP_0 okX8_refuse ⟨by decide, by decide⟩ rfl (by show kO (K a0) = _; rw [ka0]; rfl) rfl rfl (Nat.le_of_ble_eq_true rfl) ⟨by decide, by decide⟩ dX8_clear_9 (aI1 (F := fun st M => P g X 2 12 [(0, .ref a0)] st _ _ M) (M := (K, len, I, J, R)) fun x4_ I4 h4 => ?_)
    obtain ⟨hs4, hf4, k4_0, k4_1⟩ := h4
    show P g X 2 12 [(0, .ref a0)] [.int x4_] _ _ (K, len, I4, J, R)
    have hF4 : Fr K [(1, 5), (1, 6), (9, 12), (43, 999), (50, 999), (51, 999), (52, 999), (53, 999), (54, 999), (67, 999)] I I4 := hF.trans hf4 rfl rfl
    have hc4 := hc.mv ka hf4 rfl
    exact r_iret hC hQ hlk hr rfl (by decide) (by decide) dX8_clear_12 ⟨_, _, rfl, rfl, ⟨hs4, hF4, (by exact hc4), (by omega)⟩⟩
  · refine r_if_eq hC (tgt := 13) dX8_clear_4 (by decide) (fun c5 => ?_) (fun c5 => ?_)
    rotate_left
    · exfalso; omega
    refine r_aload_n hC dX8_clear_13 0 rfl ?_
    refine r_callV hC (As := []) (rest := []) (ci := 8) (f_X8_findFits g (xL X) K len I J R hs a0 ka0 h hh kh lk hlk2 klk rd hrd krd lv hlv klv llv kn hkn kkn lkn cr hcr kcr1 lcr hu D E hc) mT_3_226 mT_1_1 mT_3_223 mT_3_225 mP_33 okX8_findFits ⟨by decide, by decide⟩ rfl (by show kO (K a0) = _; rw [ka0]; rfl) rfl rfl (Nat.le_of_ble_eq_true rfl) ⟨by decide, by decide⟩ dX8_clear_14 (aV1 (F := fun st M => P g X 2 17 [(0, .ref a0)] st _ _ M) (M := (K, len, I, J, R)) fun I6 h6 => ?_)
    obtain ⟨hs6, hf6, k6_0⟩ := h6
    show P g X 2 17 [(0, .ref a0)] [] _ _ (K, len, I6, J, R)
    have hF6 : Fr K [(1, 5), (1, 6), (9, 12), (43, 999), (50, 999), (51, 999), (52, 999), (53, 999), (54, 999), (67, 999)] I I6 := hF.trans hf6 rfl rfl
    refine r_iconst hC (v := (0)) dX8_clear_17 (by decide) (by decide) (fun x7_ e7 t7 => ?_)
    refine r_istore_n hC (lv' := [(1, .int x7_), (0, .ref a0)]) dX8_clear_18 (by decide) rfl ?_
    have LP8 : ∀ (mu : Nat) (x8_1 : Int32) (I8 : Nat → Nat → Int32) (hs8 : Sf K len I8 R) (hF8 : Fr K [(1, 5), (1, 6), (9, 12), (43, 999), (50, 999), (51, 999), (52, 999), (53, 999), (54, 999), (67, 999)] I I8) (v8_0 : 0 ≤ x8_1.toInt) (v8_1 : x8_1.toInt ≤ 60) (v8_2 : KC D E a0 h lk rd I8 R), (60 - x8_1.toInt).toNat = mu → P g X 2 19 [(0, .ref a0), (1, .int x8_1)] [] 0 0 (K, len, I8, J, R) := by
      intro mu; induction mu using Nat.strongRecOn with | ind mu ih => ?_
      intro x8_1 I8 hs8 hF8 v8_0 v8_1 v8_2 hmu
      have ih8 := ih
      clear ih
      have hmu8 := hmu
      clear hmu
      refine r_iload_n hC dX8_clear_19 1 rfl ?_
      refine r_bipush hC (v := (60)) dX8_clear_20 (by decide) (by decide) (fun x9_ e9 t9 => ?_)
      refine r_icmp_ge hC (tgt := 46) dX8_clear_22 (by decide) (fun c10 => ?_) (fun c10 => ?_)
      · refine r_aload_n hC dX8_clear_46 0 rfl ?_
        refine r_bipush hC (v := (-2)) dX8_clear_47 (by decide) (by decide) (fun x11_ e11 t11 => ?_)
        refine r_callV hC (As := [.int x11_]) (rest := []) (ci := 8) (c_X8_answer g (xL X) K len I8 J R hs8 a0 ka0 x11_) mT_3_115 mT_1_1 mT_3_112 mT_3_114 mP_21 okX8_answer ⟨by decide, by decide⟩ rfl (by show kO (K a0) = _; rw [ka0]; rfl) rfl rfl (Nat.le_of_ble_eq_true rfl) ⟨by decide, by decide⟩ dX8_clear_49 (aI1 (F := fun st M => P g X 2 52 [(0, .ref a0), (1, .int x8_1)] st _ _ M) (M := (K, len, I8, J, R)) fun x12_ I12 h12 => ?_)
        obtain ⟨hs12, hf12, k12_0, k12_1⟩ := h12
        show P g X 2 52 [(0, .ref a0), (1, .int x8_1)] [.int x12_] _ _ (K, len, I12, J, R)
        have hF12 : Fr K [(1, 5), (1, 6), (9, 12), (43, 999), (50, 999), (51, 999), (52, 999), (53, 999), (54, 999), (67, 999)] I I12 := hF8.trans hf12 rfl rfl
        have hc12 := v8_2.mv ka hf12 rfl
        exact r_iret hC hQ hlk hr rfl (by decide) (by decide) dX8_clear_52 ⟨_, _, rfl, rfl, ⟨hs12, hF12, (by exact hc12), (by omega)⟩⟩
      · refine r_aload_n hC dX8_clear_25 0 rfl ?_
        refine r_iload_n hC dX8_clear_26 1 rfl ?_
        refine r_callV hC (As := [.int x8_1]) (rest := []) (ci := 8) (c_X8_countFitsUpTo g (xL X) K len I8 J R hs8 a0 ka0 x8_1) mT_3_239 mT_1_1 mT_3_236 mT_3_238 mP_34 okX8_countFitsUpTo ⟨by decide, by decide⟩ rfl (by show kO (K a0) = _; rw [ka0]; rfl) rfl rfl (Nat.le_of_ble_eq_true rfl) ⟨by decide, by decide⟩ dX8_clear_27 (aI0 (F := fun st M => P g X 2 30 [(0, .ref a0), (1, .int x8_1)] st _ _ M) (M := (K, len, I8, J, R)) fun x13_ h13 => ?_)
        skip
        show P g X 2 30 [(0, .ref a0), (1, .int x8_1)] [.int x13_] _ _ (K, len, I8, J, R)
        refine r_iconst hC (v := (1)) dX8_clear_30 (by decide) (by decide) (fun x14_ e14 t14 => ?_)
        refine r_icmp_ne hC (tgt := 40) dX8_clear_31 (by decide) (fun c15 => ?_) (fun c15 => ?_)
        · obtain ⟨x16_, e16⟩ : ∃ z : Int32, z = x8_1 + Int32.ofInt (1) := ⟨_, rfl⟩
          refine r_iinc hC (j := 1) (v := x16_) (lv' := [(1, .int x16_), (0, .ref a0)]) dX8_clear_40 rfl (by rw [e16]) (by decide) rfl ?_
          try have t16 : x16_.toInt = x8_1.toInt + (1) := by rw [e16]; exact (ti_add (b := Int32.ofInt (1)) (by show _ ≤ _ + (1 : Int); omega) (by show _ + (1 : Int) ≤ _; omega))
          refine r_goto hC (tgt := 19) dX8_clear_43 (by decide) ?_
          refine r_sub [1, 0] rfl ?_
          exact ih8 ((60 - x16_.toInt).toNat) (by omega) x16_ I8 hs8 hF8 (by omega) (by omega) (by exact v8_2) rfl
        · refine r_aload_n hC dX8_clear_34 0 rfl ?_
          refine r_iload_n hC dX8_clear_35 1 rfl ?_
          refine r_callV hC (As := [.int x8_1]) (rest := []) (ci := 8) (c_X8_answer g (xL X) K len I8 J R hs8 a0 ka0 x8_1) mT_3_115 mT_1_1 mT_3_112 mT_3_114 mP_21 okX8_answer ⟨by decide, by decide⟩ rfl (by show kO (K a0) = _; rw [ka0]; rfl) rfl rfl (Nat.le_of_ble_eq_true rfl) ⟨by decide, by decide⟩ dX8_clear_36 (aI1 (F := fun st M => P g X 2 39 [(0, .ref a0), (1, .int x8_1)] st _ _ M) (M := (K, len, I8, J, R)) fun x17_ I17 h17 => ?_)
          obtain ⟨hs17, hf17, k17_0, k17_1⟩ := h17
          show P g X 2 39 [(0, .ref a0), (1, .int x8_1)] [.int x17_] _ _ (K, len, I17, J, R)
          have hF17 : Fr K [(1, 5), (1, 6), (9, 12), (43, 999), (50, 999), (51, 999), (52, 999), (53, 999), (54, 999), (67, 999)] I I17 := hF8.trans hf17 rfl rfl
          have hc17 := v8_2.mv ka hf17 rfl
          exact r_iret hC hQ hlk hr rfl (by decide) (by decide) dX8_clear_39 ⟨_, _, rfl, rfl, ⟨hs17, hF17, (by exact hc17), (by omega)⟩⟩
    refine r_sub [1, 0] rfl ?_
    exact LP8 _ x7_ I6 hs6 hF6 (by omega) (by omega) (by exact k6_0) rfl
set_option maxHeartbeats 4000000 in
set_option maxRecDepth 100000 in
theorem f_X8_bore (g : GG) (l : Launch) (K len : Nat → Nat) (I : Nat → Nat → Int32) (J : Nat → Nat → Int64) (R : Nat → Nat → Option Nat) (hs : Sf K len I R) (a0 : Nat) (ka0 : K a0 = 9) (h : Nat) (hh : R a0 2 = some h) (kh : K h = 2) (lk : Nat) (hlk2 : R h 0 = some lk) (klk : K lk = 3) (rd : Nat) (hrd : R a0 9 = some rd) (krd : K rd = 4) (lv : Nat) (hlv : R a0 4 = some lv) (klv : K lv = 41) (llv : len lv = 60) (kn : Nat) (hkn : R a0 6 = some kn) (kkn : K kn = 43) (lkn : len kn = 6) (cr : Nat) (hcr : R a0 5 = some cr) (kcr1 : K cr = 44) (lcr : len cr = 6) (hu : UU K R) (D : DD) (E : Nat → Nat → Int) (hc : KC D E a0 h lk rd I R) : Ct g l yX8_bore cX8_bore 5 (Option.some Jvm.ClassFile.FieldType.int) rmX8_bore [.ref a0] (K, len, I, J, R) (pI1 (K, len, I, J, R) (fun r I' => Sf K len I' R ∧ Fr K [(1, 5), (1, 6), (9, 12), (43, 999), (50, 999), (51, 999), (52, 999), (53, 999), (54, 999), (67, 999), (68, 999)] I I' ∧ (KC D E a0 h lk rd I' R) ∧ ((I' a0 12).toInt ≠ 4))) := by
  refine Ct_intro (by decide +kernel) (Nat.le_of_ble_eq_true rfl) (fun X hC hL hKK hNm hr hlk hQ => ?_)
  subst hL
  have hC : Cx g X cX8_bore "HillTap" 5 rmX8_bore := hC
  show P g X 5 0 [(0, .ref a0)] [] 0 0 (K, len, I, J, R)
  have hF : Fr K [(1, 5), (1, 6), (9, 12), (43, 999), (50, 999), (51, 999), (52, 999), (53, 999), (54, 999), (67, 999), (68, 999)] I I := Fr.refl
  have ka : KA a0 h lk rd K len R := ⟨⟨_, hs⟩, hu, ka0, kh, klk, krd⟩
  obtain ⟨sd1, sd2, sd3, sd4, sd5, sd7, sd8, sd9⟩ := id hc.2.1
  have d7b := hs.rng kh (k := 6) rfl (x := I h 6) rfl
  have d5b := hs.rng kh (k := 1) rfl (x := I h 1) rfl
  have d8b := hs.rng kh (k := 8) rfl (x := I h 8) rfl
  refine r_aload_n hC dX8_bore_0 0 rfl ?_
  refine r_callV hC (As := []) (rest := []) (ci := 8) (f_X8_noHill g (xL X) K len I J R hs a0 ka0 h hh kh) mT_3_131 mT_1_1 mT_3_128 mT_3_130 mP_22 okX8_noHill ⟨by decide, by decide⟩ rfl (by show kO (K a0) = _; rw [ka0]; rfl) rfl rfl (Nat.le_of_ble_eq_true rfl) ⟨by decide, by decide⟩ dX8_bore_1 (aI0 (F := fun st M => P g X 5 4 [(0, .ref a0)] st _ _ M) (M := (K, len, I, J, R)) fun x1_ h1 => ?_)
  have k1_0 := h1
  clear h1
  show P g X 5 4 [(0, .ref a0)] [.int x1_] _ _ (K, len, I, J, R)
  rcases k1_0 with ⟨hr1, hw1⟩ | ⟨hr1, hw1⟩
  · refine r_if_eq hC (tgt := 13) dX8_bore_4 (by decide) (fun c2 => ?_) (fun c2 => ?_)
    · exfalso; omega
    refine r_aload_n hC dX8_bore_7 0 rfl ?_
    refine r_iconst hC (v := (1)) dX8_bore_8 (by decide) (by decide) (fun x3_ e3 t3 => ?_)
    refine r_callV hC (As := [.int x3_]) (rest := []) (ci := 8) (c_X8_refuse g (xL X) K len I J R hs a0 ka0 x3_) mT_2_133 mT_1_1 mT_2_130 mT_2_132 mP_0 okX8_refuse ⟨by decide, by decide⟩ rfl (by show kO (K a0) = _; rw [ka0]; rfl) rfl rfl (Nat.le_of_ble_eq_true rfl) ⟨by decide, by decide⟩ dX8_bore_9 (aI1 (F := fun st M => P g X 5 12 [(0, .ref a0)] st _ _ M) (M := (K, len, I, J, R)) fun x4_ I4 h4 => ?_)
    obtain ⟨hs4, hf4, k4_0, k4_1⟩ := h4
    show P g X 5 12 [(0, .ref a0)] [.int x4_] _ _ (K, len, I4, J, R)
    have hF4 : Fr K [(1, 5), (1, 6), (9, 12), (43, 999), (50, 999), (51, 999), (52, 999), (53, 999), (54, 999), (67, 999), (68, 999)] I I4 := hF.trans hf4 rfl rfl
    have hc4 := hc.mv ka hf4 rfl
    exact r_iret hC hQ hlk hr rfl (by decide) (by decide) dX8_bore_12 ⟨_, _, rfl, rfl, ⟨hs4, hF4, (by exact hc4), (by omega)⟩⟩
  · refine r_if_eq hC (tgt := 13) dX8_bore_4 (by decide) (fun c5 => ?_) (fun c5 => ?_)
    rotate_left
    · exfalso; omega
    refine r_aload_n hC dX8_bore_13 0 rfl ?_
    refine r_callV hC (As := []) (rest := []) (ci := 8) (f_X8_findFits g (xL X) K len I J R hs a0 ka0 h hh kh lk hlk2 klk rd hrd krd lv hlv klv llv kn hkn kkn lkn cr hcr kcr1 lcr hu D E hc) mT_3_226 mT_1_1 mT_3_223 mT_3_225 mP_33 okX8_findFits ⟨by decide, by decide⟩ rfl (by show kO (K a0) = _; rw [ka0]; rfl) rfl rfl (Nat.le_of_ble_eq_true rfl) ⟨by decide, by decide⟩ dX8_bore_14 (aV1 (F := fun st M => P g X 5 17 [(0, .ref a0)] st _ _ M) (M := (K, len, I, J, R)) fun I6 h6 => ?_)
    obtain ⟨hs6, hf6, k6_0⟩ := h6
    show P g X 5 17 [(0, .ref a0)] [] _ _ (K, len, I6, J, R)
    have hF6 : Fr K [(1, 5), (1, 6), (9, 12), (43, 999), (50, 999), (51, 999), (52, 999), (53, 999), (54, 999), (67, 999), (68, 999)] I I6 := hF.trans hf6 rfl rfl
    refine r_aload_n hC dX8_bore_17 0 rfl ?_
    refine r_callV hC (As := []) (rest := []) (ci := 8) (c_X8_weightOfFits g (xL X) K len I6 J R hs6 a0 ka0) mT_4_15 mT_1_1 mT_4_12 mT_4_14 mP_36 okX8_weightOfFits ⟨by decide, by decide⟩ rfl (by show kO (K a0) = _; rw [ka0]; rfl) rfl rfl (Nat.le_of_ble_eq_true rfl) ⟨by decide, by decide⟩ dX8_bore_18 (aI0 (F := fun st M => P g X 5 21 [(0, .ref a0)] st _ _ M) (M := (K, len, I6, J, R)) fun x7_ h7 => ?_)
    skip
    show P g X 5 21 [(0, .ref a0)] [.int x7_] _ _ (K, len, I6, J, R)
    refine r_if_ne hC (tgt := 31) dX8_bore_21 (by decide) (fun c8 => ?_) (fun c8 => ?_)
    · refine r_iconst hC (v := (0)) dX8_bore_31 (by decide) (by decide) (fun x9_ e9 t9 => ?_)
      refine r_istore_n hC (lv' := [(1, .int x9_), (0, .ref a0)]) dX8_bore_32 (by decide) rfl ?_
      refine r_aload_n hC dX8_bore_33 1 rfl ?_
      refine r_iconst hC (v := (0)) dX8_bore_34 (by decide) (by decide) (fun x10_ e10 t10 => ?_)
      refine r_callV hC (As := [.int x10_]) (rest := []) (ci := 8) (c_X8_greatestAlike g (xL X) K len I6 J R hs6 a0 ka0 x10_) mT_4_106 mT_1_1 mT_4_103 mT_4_105 mP_43 okX8_greatestAlike ⟨by decide, by decide⟩ rfl (by show kO (K a0) = _; rw [ka0]; rfl) rfl rfl (Nat.le_of_ble_eq_true rfl) ⟨by decide, by decide⟩ dX8_bore_35 (aI1 (F := fun st M => P g X 5 38 [(1, .int x9_), (0, .ref a0)] st _ _ M) (M := (K, len, I6, J, R)) fun x11_ I11 h11 => ?_)
      obtain ⟨hs11, hf11⟩ := h11
      show P g X 5 38 [(1, .int x9_), (0, .ref a0)] [.int x11_] _ _ (K, len, I11, J, R)
      have hF11 : Fr K [(1, 5), (1, 6), (9, 12), (43, 999), (50, 999), (51, 999), (52, 999), (53, 999), (54, 999), (67, 999), (68, 999)] I I11 := hF6.trans hf11 rfl rfl
      have hc11 := k6_0.mv ka hf11 rfl
      refine r_istore_n hC (lv' := [(2, .int x11_), (1, .int x9_), (0, .ref a0)]) dX8_bore_38 (by decide) rfl ?_
      refine r_iconst hC (v := (1)) dX8_bore_39 (by decide) (by decide) (fun x12_ e12 t12 => ?_)
      refine r_istore_n hC (lv' := [(3, .int x12_), (2, .int x11_), (1, .int x9_), (0, .ref a0)]) dX8_bore_40 (by decide) rfl ?_
      have LP13 : ∀ (mu : Nat) (x13_3 : Int32) (x13_2 : Int32) (x13_1 : Int32) (I13 : Nat → Nat → Int32) (hs13 : Sf K len I13 R) (hF13 : Fr K [(1, 5), (1, 6), (9, 12), (43, 999), (50, 999), (51, 999), (52, 999), (53, 999), (54, 999), (67, 999), (68, 999)] I I13) (v13_0 : 1 ≤ x13_3.toInt) (v13_1 : x13_3.toInt ≤ 100) (v13_2 : KC D E a0 h lk rd I13 R), (100 - x13_3.toInt).toNat = mu → P g X 5 41 [(0, .ref a0), (1, .int x13_1), (2, .int x13_2), (3, .int x13_3)] [] 0 0 (K, len, I13, J, R) := by
        intro mu; induction mu using Nat.strongRecOn with | ind mu ih => ?_
        intro x13_3 x13_2 x13_1 I13 hs13 hF13 v13_0 v13_1 v13_2 hmu
        have ih13 := ih
        clear ih
        have hmu13 := hmu
        clear hmu
        refine r_iload_n hC dX8_bore_41 3 rfl ?_
        refine r_bipush hC (v := (99)) dX8_bore_42 (by decide) (by decide) (fun x14_ e14 t14 => ?_)
        refine r_icmp_gt hC (tgt := 71) dX8_bore_44 (by decide) (fun c15 => ?_) (fun c15 => ?_)
        · refine r_aload_n hC dX8_bore_71 0 rfl ?_
          refine r_iload_n hC dX8_bore_72 1 rfl ?_
          refine r_callV hC (As := [.int x13_1]) (rest := []) (ci := 8) (c_X8_answer g (xL X) K len I13 J R hs13 a0 ka0 x13_1) mT_3_115 mT_1_1 mT_3_112 mT_3_114 mP_21 okX8_answer ⟨by decide, by decide⟩ rfl (by show kO (K a0) = _; rw [ka0]; rfl) rfl rfl (Nat.le_of_ble_eq_true rfl) ⟨by decide, by decide⟩ dX8_bore_73 (aI1 (F := fun st M => P g X 5 76 [(0, .ref a0), (1, .int x13_1), (2, .int x13_2), (3, .int x13_3)] st _ _ M) (M := (K, len, I13, J, R)) fun x16_ I16 h16 => ?_)
          obtain ⟨hs16, hf16, k16_0, k16_1⟩ := h16
          show P g X 5 76 [(0, .ref a0), (1, .int x13_1), (2, .int x13_2), (3, .int x13_3)] [.int x16_] _ _ (K, len, I16, J, R)
          have hF16 : Fr K [(1, 5), (1, 6), (9, 12), (43, 999), (50, 999), (51, 999), (52, 999), (53, 999), (54, 999), (67, 999), (68, 999)] I I16 := hF13.trans hf16 rfl rfl
          have hc16 := v13_2.mv ka hf16 rfl
          exact r_iret hC hQ hlk hr rfl (by decide) (by decide) dX8_bore_76 ⟨_, _, rfl, rfl, ⟨hs16, hF16, (by exact hc16), (by omega)⟩⟩
        · refine r_aload_n hC dX8_bore_47 0 rfl ?_
          refine r_iload_n hC dX8_bore_48 3 rfl ?_
          refine r_callV hC (As := [.int x13_3]) (rest := []) (ci := 8) (c_X8_greatestAlike g (xL X) K len I13 J R hs13 a0 ka0 x13_3) mT_4_106 mT_1_1 mT_4_103 mT_4_105 mP_43 okX8_greatestAlike ⟨by decide, by decide⟩ rfl (by show kO (K a0) = _; rw [ka0]; rfl) rfl rfl (Nat.le_of_ble_eq_true rfl) ⟨by decide, by decide⟩ dX8_bore_49 (aI1 (F := fun st M => P g X 5 52 [(0, .ref a0), (1, .int x13_1), (2, .int x13_2), (3, .int x13_3)] st _ _ M) (M := (K, len, I13, J, R)) fun x17_ I17 h17 => ?_)
          obtain ⟨hs17, hf17⟩ := h17
          show P g X 5 52 [(0, .ref a0), (1, .int x13_1), (2, .int x13_2), (3, .int x13_3)] [.int x17_] _ _ (K, len, I17, J, R)
          have hF17 : Fr K [(1, 5), (1, 6), (9, 12), (43, 999), (50, 999), (51, 999), (52, 999), (53, 999), (54, 999), (67, 999), (68, 999)] I I17 := hF13.trans hf17 rfl rfl
          have hc17 := v13_2.mv ka hf17 rfl
          refine r_istore hC (lv' := [(4, .int x17_), (0, .ref a0), (1, .int x13_1), (2, .int x13_2), (3, .int x13_3)]) dX8_bore_52 (by decide) rfl ?_
          refine r_iload hC dX8_bore_54 0 rfl ?_
          refine r_iload_n hC dX8_bore_56 3 rfl ?_
          refine r_icmp_ge hC (tgt := 65) dX8_bore_57 (by decide) (fun c18 => ?_) (fun c18 => ?_)
          · obtain ⟨x19_, e19⟩ : ∃ z : Int32, z = x13_3 + Int32.ofInt (1) := ⟨_, rfl⟩
            refine r_iinc hC (j := 4) (v := x19_) (lv' := [(3, .int x19_), (4, .int x17_), (0, .ref a0), (1, .int x13_1), (2, .int x13_2)]) dX8_bore_65 rfl (by rw [e19]) (by decide) rfl ?_
            try have t19 : x19_.toInt = x13_3.toInt + (1) := by rw [e19]; exact (ti_add (b := Int32.ofInt (1)) (by show _ ≤ _ + (1 : Int); omega) (by show _ + (1 : Int) ≤ _; omega))
            refine r_goto hC (tgt := 41) dX8_bore_68 (by decide) ?_
            refine r_sub [2, 3, 4, 0] rfl ?_
            exact ih13 ((100 - x19_.toInt).toNat) (by omega) x19_ x13_2 x13_1 I17 hs17 hF17 (by omega) (by omega) (by exact hc17) rfl
          · refine r_iload hC dX8_bore_60 0 rfl ?_
            refine r_istore_n hC (lv' := [(2, .int x17_), (4, .int x17_), (0, .ref a0), (1, .int x13_1), (3, .int x13_3)]) dX8_bore_62 (by decide) rfl ?_
            refine r_iload_n hC dX8_bore_63 4 rfl ?_
            refine r_istore_n hC (lv' := [(1, .int x13_3), (2, .int x17_), (4, .int x17_), (0, .ref a0), (3, .int x13_3)]) dX8_bore_64 (by decide) rfl ?_
            obtain ⟨x20_, e20⟩ : ∃ z : Int32, z = x13_3 + Int32.ofInt (1) := ⟨_, rfl⟩
            refine r_iinc hC (j := 4) (v := x20_) (lv' := [(3, .int x20_), (1, .int x13_3), (2, .int x17_), (4, .int x17_), (0, .ref a0)]) dX8_bore_65 rfl (by rw [e20]) (by decide) rfl ?_
            try have t20 : x20_.toInt = x13_3.toInt + (1) := by rw [e20]; exact (ti_add (b := Int32.ofInt (1)) (by show _ ≤ _ + (1 : Int); omega) (by show _ + (1 : Int) ≤ _; omega))
            refine r_goto hC (tgt := 41) dX8_bore_68 (by decide) ?_
            refine r_sub [4, 1, 2, 0] rfl ?_
            exact ih13 ((100 - x20_.toInt).toNat) (by omega) x20_ x17_ x13_3 I17 hs17 hF17 (by omega) (by omega) (by exact hc17) rfl
      refine r_sub [3, 2, 1, 0] rfl ?_
      exact LP13 _ x12_ x11_ x9_ I11 hs11 hF11 (by omega) (by omega) (by exact hc11) rfl
    · refine r_aload_n hC dX8_bore_24 0 rfl ?_
      refine r_bipush hC (v := (6)) dX8_bore_25 (by decide) (by decide) (fun x21_ e21 t21 => ?_)
      refine r_callV hC (As := [.int x21_]) (rest := []) (ci := 8) (c_X8_refuse g (xL X) K len I6 J R hs6 a0 ka0 x21_) mT_2_133 mT_1_1 mT_2_130 mT_2_132 mP_0 okX8_refuse ⟨by decide, by decide⟩ rfl (by show kO (K a0) = _; rw [ka0]; rfl) rfl rfl (Nat.le_of_ble_eq_true rfl) ⟨by decide, by decide⟩ dX8_bore_27 (aI1 (F := fun st M => P g X 5 30 [(0, .ref a0)] st _ _ M) (M := (K, len, I6, J, R)) fun x22_ I22 h22 => ?_)
      obtain ⟨hs22, hf22, k22_0, k22_1⟩ := h22
      show P g X 5 30 [(0, .ref a0)] [.int x22_] _ _ (K, len, I22, J, R)
      have hF22 : Fr K [(1, 5), (1, 6), (9, 12), (43, 999), (50, 999), (51, 999), (52, 999), (53, 999), (54, 999), (67, 999), (68, 999)] I I22 := hF6.trans hf22 rfl rfl
      have hc22 := k6_0.mv ka hf22 rfl
      exact r_iret hC hQ hlk hr rfl (by decide) (by decide) dX8_bore_30 ⟨_, _, rfl, rfl, ⟨hs22, hF22, (by exact hc22), (by omega)⟩⟩
set_option maxHeartbeats 4000000 in
set_option maxRecDepth 100000 in
theorem f_X8_tell (g : GG) (l : Launch) (K len : Nat → Nat) (I : Nat → Nat → Int32) (J : Nat → Nat → Int64) (R : Nat → Nat → Option Nat) (hs : Sf K len I R) (a0 : Nat) (ka0 : K a0 = 9) (x1 : Int32) (x2 : Int32) (h : Nat) (hh : R a0 2 = some h) (kh : K h = 2) (lk : Nat) (hlk2 : R h 0 = some lk) (klk : K lk = 3) (rd : Nat) (hrd : R a0 9 = some rd) (krd : K rd = 4) (lv : Nat) (hlv : R a0 4 = some lv) (klv : K lv = 41) (llv : len lv = 60) (kn : Nat) (hkn : R a0 6 = some kn) (kkn : K kn = 43) (lkn : len kn = 6) (cr : Nat) (hcr : R a0 5 = some cr) (kcr1 : K cr = 44) (lcr : len cr = 6) (hu : UU K R) (D : DD) (E : Nat → Nat → Int) (hc : KC D E a0 h lk rd I R) : Ct g l yX8_tell cX8_tell 7 (Option.some Jvm.ClassFile.FieldType.int) rmX8_tell [.ref a0, .int x1, .int x2] (K, len, I, J, R) (pI1 (K, len, I, J, R) (fun r I' => Sf K len I' R ∧ Fr K [(1, 5), (1, 6), (9, 12), (43, 999), (50, 999), (51, 999), (52, 999), (53, 999), (54, 999), (67, 999)] I I' ∧ (KC D E a0 h lk rd I' R) ∧ ((I' a0 12).toInt ≠ 4))) := by
  refine Ct_intro (by decide +kernel) (Nat.le_of_ble_eq_true rfl) (fun X hC hL hKK hNm hr hlk hQ => ?_)
  subst hL
  have hC : Cx g X cX8_tell "HillTap" 7 rmX8_tell := hC
  show P g X 7 0 [(0, .ref a0), (1, .int x1), (2, .int x2)] [] 0 0 (K, len, I, J, R)
  have hF : Fr K [(1, 5), (1, 6), (9, 12), (43, 999), (50, 999), (51, 999), (52, 999), (53, 999), (54, 999), (67, 999)] I I := Fr.refl
  have ka : KA a0 h lk rd K len R := ⟨⟨_, hs⟩, hu, ka0, kh, klk, krd⟩
  obtain ⟨sd1, sd2, sd3, sd4, sd5, sd7, sd8, sd9⟩ := id hc.2.1
  have d7b := hs.rng kh (k := 6) rfl (x := I h 6) rfl
  have d5b := hs.rng kh (k := 1) rfl (x := I h 1) rfl
  have d8b := hs.rng kh (k := 8) rfl (x := I h 8) rfl
  have b_x1 := ti_rng x1
  have b_x2 := ti_rng x2
  refine r_aload_n hC dX8_tell_0 0 rfl ?_
  refine r_iload_n hC dX8_tell_1 1 rfl ?_
  refine r_callV hC (As := [.int x1]) (rest := []) (ci := 8) (f_X8_isVillage g (xL X) K len I J R hs a0 ka0 x1 h hh kh) mT_4_119 mT_1_1 mT_4_116 mT_4_118 mP_45 okX8_isVillage ⟨by decide, by decide⟩ rfl (by show kO (K a0) = _; rw [ka0]; rfl) rfl rfl (Nat.le_of_ble_eq_true rfl) ⟨by decide, by decide⟩ dX8_tell_2 (aI0 (F := fun st M => P g X 7 5 [(0, .ref a0), (1, .int x1), (2, .int x2)] st _ _ M) (M := (K, len, I, J, R)) fun x1_ h1 => ?_)
  have k1_0 := h1
  clear h1
  show P g X 7 5 [(0, .ref a0), (1, .int x1), (2, .int x2)] [.int x1_] _ _ (K, len, I, J, R)
  rcases k1_0 with ⟨hr1, hw1⟩ | ⟨hr1, hw1⟩
  · refine r_if_ne hC (tgt := 14) dX8_tell_5 (by decide) (fun c2 => ?_) (fun c2 => ?_)
    rotate_left
    · exfalso; omega
    refine r_iload_n hC dX8_tell_14 2 rfl ?_
    refine r_if_lt hC (tgt := 24) dX8_tell_15 (by decide) (fun c3 => ?_) (fun c3 => ?_)
    · refine r_aload_n hC dX8_tell_24 0 rfl ?_
      refine r_iconst hC (v := (2)) dX8_tell_25 (by decide) (by decide) (fun x4_ e4 t4 => ?_)
      refine r_callV hC (As := [.int x4_]) (rest := []) (ci := 8) (c_X8_refuse g (xL X) K len I J R hs a0 ka0 x4_) mT_2_133 mT_1_1 mT_2_130 mT_2_132 mP_0 okX8_refuse ⟨by decide, by decide⟩ rfl (by show kO (K a0) = _; rw [ka0]; rfl) rfl rfl (Nat.le_of_ble_eq_true rfl) ⟨by decide, by decide⟩ dX8_tell_26 (aI1 (F := fun st M => P g X 7 29 [(0, .ref a0), (1, .int x1), (2, .int x2)] st _ _ M) (M := (K, len, I, J, R)) fun x5_ I5 h5 => ?_)
      obtain ⟨hs5, hf5, k5_0, k5_1⟩ := h5
      show P g X 7 29 [(0, .ref a0), (1, .int x1), (2, .int x2)] [.int x5_] _ _ (K, len, I5, J, R)
      have hF5 : Fr K [(1, 5), (1, 6), (9, 12), (43, 999), (50, 999), (51, 999), (52, 999), (53, 999), (54, 999), (67, 999)] I I5 := hF.trans hf5 rfl rfl
      have hc5 := hc.mv ka hf5 rfl
      exact r_iret hC hQ hlk hr rfl (by decide) (by decide) dX8_tell_29 ⟨_, _, rfl, rfl, ⟨hs5, hF5, (by exact hc5), (by omega)⟩⟩
    · refine r_iload_n hC dX8_tell_18 2 rfl ?_
      refine r_ldc hC (n := 999999) (v := 999999) mT_4_132 dX8_tell_19 (by decide) (fun x6_ e6 t6 => ?_)
      refine r_icmp_le hC (tgt := 30) dX8_tell_21 (by decide) (fun c7 => ?_) (fun c7 => ?_)
      · refine r_aload_n hC dX8_tell_30 0 rfl ?_
        refine r_callV hC (As := []) (rest := []) (ci := 8) (f_X8_findFits g (xL X) K len I J R hs a0 ka0 h hh kh lk hlk2 klk rd hrd krd lv hlv klv llv kn hkn kkn lkn cr hcr kcr1 lcr hu D E hc) mT_3_226 mT_1_1 mT_3_223 mT_3_225 mP_33 okX8_findFits ⟨by decide, by decide⟩ rfl (by show kO (K a0) = _; rw [ka0]; rfl) rfl rfl (Nat.le_of_ble_eq_true rfl) ⟨by decide, by decide⟩ dX8_tell_31 (aV1 (F := fun st M => P g X 7 34 [(0, .ref a0), (1, .int x1), (2, .int x2)] st _ _ M) (M := (K, len, I, J, R)) fun I8 h8 => ?_)
        obtain ⟨hs8, hf8, k8_0⟩ := h8
        show P g X 7 34 [(0, .ref a0), (1, .int x1), (2, .int x2)] [] _ _ (K, len, I8, J, R)
        have hF8 : Fr K [(1, 5), (1, 6), (9, 12), (43, 999), (50, 999), (51, 999), (52, 999), (53, 999), (54, 999), (67, 999)] I I8 := hF.trans hf8 rfl rfl
        refine r_aload_n hC dX8_tell_34 0 rfl ?_
        refine r_callV hC (As := []) (rest := []) (ci := 8) (c_X8_weightOfFits g (xL X) K len I8 J R hs8 a0 ka0) mT_4_15 mT_1_1 mT_4_12 mT_4_14 mP_36 okX8_weightOfFits ⟨by decide, by decide⟩ rfl (by show kO (K a0) = _; rw [ka0]; rfl) rfl rfl (Nat.le_of_ble_eq_true rfl) ⟨by decide, by decide⟩ dX8_tell_35 (aI0 (F := fun st M => P g X 7 38 [(0, .ref a0), (1, .int x1), (2, .int x2)] st _ _ M) (M := (K, len, I8, J, R)) fun x9_ h9 => ?_)
        skip
        show P g X 7 38 [(0, .ref a0), (1, .int x1), (2, .int x2)] [.int x9_] _ _ (K, len, I8, J, R)
        refine r_istore_n hC (lv' := [(3, .int x9_), (0, .ref a0), (1, .int x1), (2, .int x2)]) dX8_tell_38 (by decide) rfl ?_
        refine r_iload_n hC dX8_tell_39 0 rfl ?_
        refine r_if_ne hC (tgt := 50) dX8_tell_40 (by decide) (fun c10 => ?_) (fun c10 => ?_)
        · refine r_iconst hC (v := (0)) dX8_tell_50 (by decide) (by decide) (fun x11_ e11 t11 => ?_)
          refine r_istore hC (lv' := [(4, .int x11_), (3, .int x9_), (0, .ref a0), (1, .int x1), (2, .int x2)]) dX8_tell_51 (by decide) rfl ?_
          refine r_bipush hC (v := (60)) dX8_tell_53 (by decide) (by decide) (fun x12_ e12 t12 => ?_)
          refine r_istore hC (lv' := [(5, .int x12_), (4, .int x11_), (3, .int x9_), (0, .ref a0), (1, .int x1), (2, .int x2)]) dX8_tell_55 (by decide) rfl ?_
          refine r_iconst hC (v := (0)) dX8_tell_57 (by decide) (by decide) (fun x13_ e13 t13 => ?_)
          refine r_istore hC (lv' := [(6, .int x13_), (5, .int x12_), (4, .int x11_), (3, .int x9_), (0, .ref a0), (1, .int x1), (2, .int x2)]) dX8_tell_58 (by decide) rfl ?_
          have LP14 : ∀ (mu : Nat) (x14_6 : Int32) (x14_5 : Int32) (x14_4 : Int32) (I14 : Nat → Nat → Int32) (hs14 : Sf K len I14 R) (hF14 : Fr K [(1, 5), (1, 6), (9, 12), (43, 999), (50, 999), (51, 999), (52, 999), (53, 999), (54, 999), (67, 999)] I I14) (v14_0 : 0 ≤ x14_6.toInt) (v14_1 : x14_6.toInt ≤ 6) (v14_2 : KC D E a0 h lk rd I14 R), (6 - x14_6.toInt).toNat = mu → P g X 7 60 [(0, .ref a0), (1, .int x1), (2, .int x2), (3, .int x9_), (4, .int x14_4), (5, .int x14_5), (6, .int x14_6)] [] 0 0 (K, len, I14, J, R) := by
            intro mu; induction mu using Nat.strongRecOn with | ind mu ih => ?_
            intro x14_6 x14_5 x14_4 I14 hs14 hF14 v14_0 v14_1 v14_2 hmu
            have ih14 := ih
            clear ih
            have hmu14 := hmu
            clear hmu
            refine r_iload hC dX8_tell_60 6 rfl ?_
            refine r_aload_n hC dX8_tell_62 0 rfl ?_
            refine r_getr hC 2 (ci := 8) rfl u8_in (by decide) mT_2_80 dX8_tell_63 ka0 rfl rfl hh ?_
            refine r_geti hC 6 (ci := 1) rfl u1_in (by decide) mT_1_202 dX8_tell_66 kh rfl rfl (fun x15_ e15 => ?_)
            have r15 := hs14.rng kh rfl e15
            have f15 : x15_.toInt = (I14 h 6).toInt := by rw [e15]
            have sc15 : x15_.toInt = D 0 7 := by rw [e15]; exact v14_2.2.1.2.2.2.2.2.1
            refine r_icmp_ge hC (tgt := 131) dX8_tell_69 (by decide) (fun c16 => ?_) (fun c16 => ?_)
            · refine r_iload hC dX8_tell_131 4 rfl ?_
              refine r_if_eq hC (tgt := 154) dX8_tell_133 (by decide) (fun c17 => ?_) (fun c17 => ?_)
              · refine r_aload_n hC dX8_tell_154 0 rfl ?_
                refine r_bipush hC (v := (-2)) dX8_tell_155 (by decide) (by decide) (fun x18_ e18 t18 => ?_)
                refine r_callV hC (As := [.int x18_]) (rest := []) (ci := 8) (c_X8_answer g (xL X) K len I14 J R hs14 a0 ka0 x18_) mT_3_115 mT_1_1 mT_3_112 mT_3_114 mP_21 okX8_answer ⟨by decide, by decide⟩ rfl (by show kO (K a0) = _; rw [ka0]; rfl) rfl rfl (Nat.le_of_ble_eq_true rfl) ⟨by decide, by decide⟩ dX8_tell_157 (aI1 (F := fun st M => P g X 7 160 [(0, .ref a0), (1, .int x1), (2, .int x2), (3, .int x9_), (4, .int x14_4), (5, .int x14_5), (6, .int x14_6)] st _ _ M) (M := (K, len, I14, J, R)) fun x19_ I19 h19 => ?_)
                obtain ⟨hs19, hf19, k19_0, k19_1⟩ := h19
                show P g X 7 160 [(0, .ref a0), (1, .int x1), (2, .int x2), (3, .int x9_), (4, .int x14_4), (5, .int x14_5), (6, .int x14_6)] [.int x19_] _ _ (K, len, I19, J, R)
                have hF19 : Fr K [(1, 5), (1, 6), (9, 12), (43, 999), (50, 999), (51, 999), (52, 999), (53, 999), (54, 999), (67, 999)] I I19 := hF14.trans hf19 rfl rfl
                have hc19 := v14_2.mv ka hf19 rfl
                exact r_iret hC hQ hlk hr rfl (by decide) (by decide) dX8_tell_160 ⟨_, _, rfl, rfl, ⟨hs19, hF19, (by exact hc19), (by omega)⟩⟩
              · refine r_iload hC dX8_tell_136 4 rfl ?_
                refine r_aload_n hC dX8_tell_138 0 rfl ?_
                refine r_getr hC 2 (ci := 8) rfl u8_in (by decide) mT_2_80 dX8_tell_139 ka0 rfl rfl hh ?_
                obtain ⟨a20_, hb20, hk20, hn20⟩ := hs14.row kh 10 59 4 (by decide) (by decide)
                refine r_getr hC 10 (ci := 1) rfl u1_in (by decide) mT_1_214 dX8_tell_142 kh rfl rfl hb20 ?_
                refine r_iload_n hC dX8_tell_145 1 rfl ?_
                refine x_iaload hC hk20 hn20 (by decide) rfl rfl dX8_tell_146 (by omega) (by omega) (fun x21_ e21 => ?_)
                have q21 : x21_.toInt = D 11 x1.toInt.toNat := by rw [e21, clx (i := x1) rfl (by omega)]; exact v14_2.1 11 _ _ _ (cCt (r := 11) rfl hb20) (by rw [cnt_11]; omega) (fun h9 => absurd h9 (by decide))
                refine r_imul hC dX8_tell_147 (fun x22_ e22 => ?_)
                refine r_iload_n hC dX8_tell_148 2 rfl ?_
                refine r_iload_n hC dX8_tell_149 3 rfl ?_
                refine r_imul hC dX8_tell_150 (fun x23_ e23 => ?_)
                refine r_icmp_ge hC (tgt := 161) dX8_tell_151 (by decide) (fun c24 => ?_) (fun c24 => ?_)
                · refine r_aload_n hC dX8_tell_161 0 rfl ?_
                  refine r_iconst hC (v := (0)) dX8_tell_162 (by decide) (by decide) (fun x25_ e25 t25 => ?_)
                  refine r_iload hC dX8_tell_163 5 rfl ?_
                  refine r_aload_n hC dX8_tell_165 0 rfl ?_
                  refine r_getr hC 2 (ci := 8) rfl u8_in (by decide) mT_2_80 dX8_tell_166 ka0 rfl rfl hh ?_
                  obtain ⟨a26_, hb26, hk26, hn26⟩ := hs14.row kh 11 60 4 (by decide) (by decide)
                  refine r_getr hC 11 (ci := 1) rfl u1_in (by decide) mT_1_217 dX8_tell_169 kh rfl rfl hb26 ?_
                  refine r_iload_n hC dX8_tell_172 1 rfl ?_
                  refine x_iaload hC hk26 hn26 (by decide) rfl rfl dX8_tell_173 (by omega) (by omega) (fun x27_ e27 => ?_)
                  have q27 : x27_.toInt = D 12 x1.toInt.toNat := by rw [e27, clx (i := x1) rfl (by omega)]; exact v14_2.1 12 _ _ _ (cCt (r := 12) rfl hb26) (by rw [cnt_12]; omega) (fun h9 => absurd h9 (by decide))
                  refine r_isub hC dX8_tell_174 (fun x28_ e28 => ?_)
                  try have t28 : x28_.toInt = x14_5.toInt - x27_.toInt := by rw [e28]; exact ti_sub (by omega) (by omega)
                  refine r_mmax hC mT_4_111 mT_3_11 mT_1_12 mT_3_12 (by decide) (Nat.le_of_ble_eq_true rfl) (Nat.zero_le _) (Nat.zero_le _) dX8_tell_175 (fun x29_ e29 t29a t29b t29c => ?_)
                  refine r_callV hC (As := [.int x29_]) (rest := []) (ci := 8) (c_X8_answer g (xL X) K len I14 J R hs14 a0 ka0 x29_) mT_3_115 mT_1_1 mT_3_112 mT_3_114 mP_21 okX8_answer ⟨by decide, by decide⟩ rfl (by show kO (K a0) = _; rw [ka0]; rfl) rfl rfl (Nat.le_of_ble_eq_true rfl) ⟨by decide, by decide⟩ dX8_tell_178 (aI1 (F := fun st M => P g X 7 181 [(0, .ref a0), (1, .int x1), (2, .int x2), (3, .int x9_), (4, .int x14_4), (5, .int x14_5), (6, .int x14_6)] st _ _ M) (M := (K, len, I14, J, R)) fun x30_ I30 h30 => ?_)
                  obtain ⟨hs30, hf30, k30_0, k30_1⟩ := h30
                  show P g X 7 181 [(0, .ref a0), (1, .int x1), (2, .int x2), (3, .int x9_), (4, .int x14_4), (5, .int x14_5), (6, .int x14_6)] [.int x30_] _ _ (K, len, I30, J, R)
                  have hF30 : Fr K [(1, 5), (1, 6), (9, 12), (43, 999), (50, 999), (51, 999), (52, 999), (53, 999), (54, 999), (67, 999)] I I30 := hF14.trans hf30 rfl rfl
                  have hc30 := v14_2.mv ka hf30 rfl
                  exact r_iret hC hQ hlk hr rfl (by decide) (by decide) dX8_tell_181 ⟨_, _, rfl, rfl, ⟨hs30, hF30, (by exact hc30), (by omega)⟩⟩
                · refine r_aload_n hC dX8_tell_154 0 rfl ?_
                  refine r_bipush hC (v := (-2)) dX8_tell_155 (by decide) (by decide) (fun x31_ e31 t31 => ?_)
                  refine r_callV hC (As := [.int x31_]) (rest := []) (ci := 8) (c_X8_answer g (xL X) K len I14 J R hs14 a0 ka0 x31_) mT_3_115 mT_1_1 mT_3_112 mT_3_114 mP_21 okX8_answer ⟨by decide, by decide⟩ rfl (by show kO (K a0) = _; rw [ka0]; rfl) rfl rfl (Nat.le_of_ble_eq_true rfl) ⟨by decide, by decide⟩ dX8_tell_157 (aI1 (F := fun st M => P g X 7 160 [(0, .ref a0), (1, .int x1), (2, .int x2), (3, .int x9_), (4, .int x14_4), (5, .int x14_5), (6, .int x14_6)] st _ _ M) (M := (K, len, I14, J, R)) fun x32_ I32 h32 => ?_)
                  obtain ⟨hs32, hf32, k32_0, k32_1⟩ := h32
                  show P g X 7 160 [(0, .ref a0), (1, .int x1), (2, .int x2), (3, .int x9_), (4, .int x14_4), (5, .int x14_5), (6, .int x14_6)] [.int x32_] _ _ (K, len, I32, J, R)
                  have hF32 : Fr K [(1, 5), (1, 6), (9, 12), (43, 999), (50, 999), (51, 999), (52, 999), (53, 999), (54, 999), (67, 999)] I I32 := hF14.trans hf32 rfl rfl
                  have hc32 := v14_2.mv ka hf32 rfl
                  exact r_iret hC hQ hlk hr rfl (by decide) (by decide) dX8_tell_160 ⟨_, _, rfl, rfl, ⟨hs32, hF32, (by exact hc32), (by omega)⟩⟩
            · refine r_aload_n hC dX8_tell_72 0 rfl ?_
              refine r_iload hC dX8_tell_73 6 rfl ?_
              refine r_callV hC (As := [.int x14_6]) (rest := []) (ci := 8) (c_X8_isFit g (xL X) K len I14 J R hs14 a0 ka0 x14_6 (by omega) (by omega)) mT_4_7 mT_1_1 mT_4_4 mT_4_6 mP_35 okX8_isFit ⟨by decide, by decide⟩ rfl (by show kO (K a0) = _; rw [ka0]; rfl) rfl rfl (Nat.le_of_ble_eq_true rfl) ⟨by decide, by decide⟩ dX8_tell_75 (aI0 (F := fun st M => P g X 7 78 [(0, .ref a0), (1, .int x1), (2, .int x2), (3, .int x9_), (4, .int x14_4), (5, .int x14_5), (6, .int x14_6)] st _ _ M) (M := (K, len, I14, J, R)) fun x33_ h33 => ?_)
              obtain ⟨k33_0, k33_1⟩ := h33
              show P g X 7 78 [(0, .ref a0), (1, .int x1), (2, .int x2), (3, .int x9_), (4, .int x14_4), (5, .int x14_5), (6, .int x14_6)] [.int x33_] _ _ (K, len, I14, J, R)
              refine r_if_eq hC (tgt := 125) dX8_tell_78 (by decide) (fun c34 => ?_) (fun c34 => ?_)
              · obtain ⟨x35_, e35⟩ : ∃ z : Int32, z = x14_6 + Int32.ofInt (1) := ⟨_, rfl⟩
                refine r_iinc hC (j := 6) (v := x35_) (lv' := [(6, .int x35_), (0, .ref a0), (1, .int x1), (2, .int x2), (3, .int x9_), (4, .int x14_4), (5, .int x14_5)]) dX8_tell_125 rfl (by rw [e35]) (by decide) rfl ?_
                try have t35 : x35_.toInt = x14_6.toInt + (1) := by rw [e35]; exact (ti_add (b := Int32.ofInt (1)) (by show _ ≤ _ + (1 : Int); omega) (by show _ + (1 : Int) ≤ _; omega))
                refine r_goto hC (tgt := 60) dX8_tell_128 (by decide) ?_
                refine r_sub [1, 2, 3, 4, 5, 6, 0] rfl ?_
                exact ih14 ((6 - x35_.toInt).toNat) (by omega) x35_ x14_5 x14_4 I14 hs14 hF14 (by omega) (by omega) (by exact v14_2) rfl
              · refine r_aload_n hC dX8_tell_81 0 rfl ?_
                refine r_iload hC dX8_tell_82 6 rfl ?_
                refine r_iload_n hC dX8_tell_84 1 rfl ?_
                refine r_callV hC (As := [.int x14_6, .int x1]) (rest := []) (ci := 8) (f_X8_strikes g (xL X) K len I14 J R hs14 a0 ka0 x14_6 x1 h hh kh lk hlk2 klk rd hrd krd lv hlv klv llv kn hkn kkn lkn cr hcr kcr1 lcr hu D E v14_2 (by omega) (by omega) (by omega) (by omega)) mT_4_123 mT_1_1 mT_4_120 mT_4_122 mP_46 okX8_strikes ⟨by decide, by decide⟩ rfl (by show kO (K a0) = _; rw [ka0]; rfl) rfl rfl (Nat.le_of_ble_eq_true rfl) ⟨by decide, by decide⟩ dX8_tell_85 (aI1 (F := fun st M => P g X 7 88 [(0, .ref a0), (1, .int x1), (2, .int x2), (3, .int x9_), (4, .int x14_4), (5, .int x14_5), (6, .int x14_6)] st _ _ M) (M := (K, len, I14, J, R)) fun x36_ I36 h36 => ?_)
                obtain ⟨hs36, hf36, k36_0, k36_1⟩ := h36
                show P g X 7 88 [(0, .ref a0), (1, .int x1), (2, .int x2), (3, .int x9_), (4, .int x14_4), (5, .int x14_5), (6, .int x14_6)] [.int x36_] _ _ (K, len, I36, J, R)
                have hF36 : Fr K [(1, 5), (1, 6), (9, 12), (43, 999), (50, 999), (51, 999), (52, 999), (53, 999), (54, 999), (67, 999)] I I36 := hF14.trans hf36 rfl rfl
                refine r_if_eq hC (tgt := 125) dX8_tell_88 (by decide) (fun c37 => ?_) (fun c37 => ?_)
                · obtain ⟨x38_, e38⟩ : ∃ z : Int32, z = x14_6 + Int32.ofInt (1) := ⟨_, rfl⟩
                  refine r_iinc hC (j := 6) (v := x38_) (lv' := [(6, .int x38_), (0, .ref a0), (1, .int x1), (2, .int x2), (3, .int x9_), (4, .int x14_4), (5, .int x14_5)]) dX8_tell_125 rfl (by rw [e38]) (by decide) rfl ?_
                  try have t38 : x38_.toInt = x14_6.toInt + (1) := by rw [e38]; exact (ti_add (b := Int32.ofInt (1)) (by show _ ≤ _ + (1 : Int); omega) (by show _ + (1 : Int) ≤ _; omega))
                  refine r_goto hC (tgt := 60) dX8_tell_128 (by decide) ?_
                  refine r_sub [1, 2, 3, 4, 5, 6, 0] rfl ?_
                  exact ih14 ((6 - x38_.toInt).toNat) (by omega) x38_ x14_5 x14_4 I36 hs36 hF36 (by omega) (by omega) (by exact k36_0) rfl
                · refine r_iload hC dX8_tell_91 4 rfl ?_
                  refine r_aload_n hC dX8_tell_93 0 rfl ?_
                  refine r_getr hC 2 (ci := 8) rfl u8_in (by decide) mT_2_80 dX8_tell_94 ka0 rfl rfl hh ?_
                  obtain ⟨a39_, hb39, hk39, hn39⟩ := hs36.row kh 7 45 6 (by decide) (by decide)
                  refine r_getr hC 7 (ci := 1) rfl u1_in (by decide) mT_1_205 dX8_tell_97 kh rfl rfl hb39 ?_
                  refine r_iload hC dX8_tell_100 6 rfl ?_
                  obtain ⟨a40_, hb40, hk40⟩ := hs36.sto hk39 (i := x14_6) (by omega) (by omega)
                  refine x_aaload (C := "HillTap$Story") hC hk39 hn39 (by decide) rfl (by decide) dX8_tell_102 (by omega) (by omega) hb40 ?_
                  refine r_geti hC 0 (ci := 4) rfl u4_in (by decide) mT_1_161 dX8_tell_103 hk40 rfl rfl (fun x41_ e41 => ?_)
                  have f41 : x41_.toInt = (I36 a40_ 0).toInt := by rw [e41]
                  have q41 : x41_.toInt = D 6 x14_6.toInt.toNat := by rw [e41]; exact (k36_0.sto hb39 (by rw [← clx (i := x14_6) rfl (by omega)]; exact hb40) (by omega) (by omega)).1
                  have jb41 : 0 ≤ D 6 x14_6.toInt.toNat ∧ D 6 x14_6.toInt.toNat ≤ 99 := ((k36_0.2.2.1 (by omega)).1).2.2.2.1 6 _ (by decide) (by decide) (by decide)
                  refine r_iadd hC dX8_tell_106 (fun x42_ e42 => ?_)
                  try have t42 : x42_.toInt = x14_4.toInt + x41_.toInt := by rw [e42]; exact ti_add (by omega) (by omega)
                  refine r_istore hC (lv' := [(4, .int x42_), (0, .ref a0), (1, .int x1), (2, .int x2), (3, .int x9_), (5, .int x14_5), (6, .int x14_6)]) dX8_tell_107 (by decide) rfl ?_
                  refine r_iload hC dX8_tell_109 5 rfl ?_
                  refine r_aload_n hC dX8_tell_111 1 rfl ?_
                  refine r_iload hC dX8_tell_112 6 rfl ?_
                  refine r_callV hC (As := [.int x14_6]) (rest := [.int x14_5]) (ci := 8) (f_X8_courseOf g (xL X) K len I36 J R hs36 a0 ka0 x14_6 h hh kh lk hlk2 klk rd hrd krd lv hlv klv llv kn hkn kkn lkn cr hcr kcr1 lcr hu D E k36_0 (by omega) (by omega)) mT_3_163 mT_1_1 mT_3_160 mT_3_162 mP_26 okX8_courseOf ⟨by decide, by decide⟩ rfl (by show kO (K a0) = _; rw [ka0]; rfl) rfl rfl (Nat.le_of_ble_eq_true rfl) ⟨by decide, by decide⟩ dX8_tell_114 (aR1 (F := fun st M => P g X 7 117 [(4, .int x42_), (0, .ref a0), (1, .int x1), (2, .int x2), (3, .int x9_), (5, .int x14_5), (6, .int x14_6)] st _ _ M) (M := (K, len, I36, J, R)) fun a43_ I43 h43 => ?_)
                  obtain ⟨hs43, hf43, k43_0, k43_1, k43_2, k43_3, k43_4⟩ := h43
                  show P g X 7 117 [(4, .int x42_), (0, .ref a0), (1, .int x1), (2, .int x2), (3, .int x9_), (5, .int x14_5), (6, .int x14_6)] [.ref a43_, .int x14_5] _ _ (K, len, I43, J, R)
                  have hF43 : Fr K [(1, 5), (1, 6), (9, 12), (43, 999), (50, 999), (51, 999), (52, 999), (53, 999), (54, 999), (67, 999)] I I43 := hF36.trans hf43 rfl rfl
                  refine r_geti hC 5 (ci := 0) rfl u0_in (by decide) mT_2_36 dX8_tell_117 k43_0 rfl rfl (fun x44_ e44 => ?_)
                  have f44 : x44_.toInt = (I43 a43_ 5).toInt := by rw [e44]
                  have q44 : x44_.toInt = GV D x14_6.toInt.toNat (Ad D x14_6.toInt.toNat (LP1 D) 1) 60 := by rw [e44]; exact k43_3.2.1
                  refine r_mmin hC mT_4_133 mT_2_154 mT_1_12 mT_2_155 (by decide) (Nat.le_of_ble_eq_true rfl) (Nat.zero_le _) (Nat.zero_le _) dX8_tell_120 (fun x45_ e45 t45a t45b t45c => ?_)
                  refine r_istore hC (lv' := [(5, .int x45_), (4, .int x42_), (0, .ref a0), (1, .int x1), (2, .int x2), (3, .int x9_), (6, .int x14_6)]) dX8_tell_123 (by decide) rfl ?_
                  obtain ⟨x46_, e46⟩ : ∃ z : Int32, z = x14_6 + Int32.ofInt (1) := ⟨_, rfl⟩
                  refine r_iinc hC (j := 6) (v := x46_) (lv' := [(6, .int x46_), (5, .int x45_), (4, .int x42_), (0, .ref a0), (1, .int x1), (2, .int x2), (3, .int x9_)]) dX8_tell_125 rfl (by rw [e46]) (by decide) rfl ?_
                  try have t46 : x46_.toInt = x14_6.toInt + (1) := by rw [e46]; exact (ti_add (b := Int32.ofInt (1)) (by show _ ≤ _ + (1 : Int); omega) (by show _ + (1 : Int) ≤ _; omega))
                  refine r_goto hC (tgt := 60) dX8_tell_128 (by decide) ?_
                  refine r_sub [3, 4, 5, 6, 2, 1, 0] rfl ?_
                  exact ih14 ((6 - x46_.toInt).toNat) (by omega) x46_ x45_ x42_ I43 hs43 hF43 (by omega) (by omega) (by exact k43_2) rfl
          refine r_sub [4, 5, 6, 3, 2, 1, 0] rfl ?_
          exact LP14 _ x13_ x12_ x11_ I8 hs8 hF8 (by omega) (by omega) (by exact k8_0) rfl
        · refine r_aload_n hC dX8_tell_43 1 rfl ?_
          refine r_bipush hC (v := (6)) dX8_tell_44 (by decide) (by decide) (fun x47_ e47 t47 => ?_)
          refine r_callV hC (As := [.int x47_]) (rest := []) (ci := 8) (c_X8_refuse g (xL X) K len I8 J R hs8 a0 ka0 x47_) mT_2_133 mT_1_1 mT_2_130 mT_2_132 mP_0 okX8_refuse ⟨by decide, by decide⟩ rfl (by show kO (K a0) = _; rw [ka0]; rfl) rfl rfl (Nat.le_of_ble_eq_true rfl) ⟨by decide, by decide⟩ dX8_tell_46 (aI1 (F := fun st M => P g X 7 49 [(3, .int x9_), (0, .ref a0), (1, .int x1), (2, .int x2)] st _ _ M) (M := (K, len, I8, J, R)) fun x48_ I48 h48 => ?_)
          obtain ⟨hs48, hf48, k48_0, k48_1⟩ := h48
          show P g X 7 49 [(3, .int x9_), (0, .ref a0), (1, .int x1), (2, .int x2)] [.int x48_] _ _ (K, len, I48, J, R)
          have hF48 : Fr K [(1, 5), (1, 6), (9, 12), (43, 999), (50, 999), (51, 999), (52, 999), (53, 999), (54, 999), (67, 999)] I I48 := hF8.trans hf48 rfl rfl
          have hc48 := k8_0.mv ka hf48 rfl
          exact r_iret hC hQ hlk hr rfl (by decide) (by decide) dX8_tell_49 ⟨_, _, rfl, rfl, ⟨hs48, hF48, (by exact hc48), (by omega)⟩⟩
      · refine r_aload_n hC dX8_tell_24 0 rfl ?_
        refine r_iconst hC (v := (2)) dX8_tell_25 (by decide) (by decide) (fun x49_ e49 t49 => ?_)
        refine r_callV hC (As := [.int x49_]) (rest := []) (ci := 8) (c_X8_refuse g (xL X) K len I J R hs a0 ka0 x49_) mT_2_133 mT_1_1 mT_2_130 mT_2_132 mP_0 okX8_refuse ⟨by decide, by decide⟩ rfl (by show kO (K a0) = _; rw [ka0]; rfl) rfl rfl (Nat.le_of_ble_eq_true rfl) ⟨by decide, by decide⟩ dX8_tell_26 (aI1 (F := fun st M => P g X 7 29 [(0, .ref a0), (1, .int x1), (2, .int x2)] st _ _ M) (M := (K, len, I, J, R)) fun x50_ I50 h50 => ?_)
        obtain ⟨hs50, hf50, k50_0, k50_1⟩ := h50
        show P g X 7 29 [(0, .ref a0), (1, .int x1), (2, .int x2)] [.int x50_] _ _ (K, len, I50, J, R)
        have hF50 : Fr K [(1, 5), (1, 6), (9, 12), (43, 999), (50, 999), (51, 999), (52, 999), (53, 999), (54, 999), (67, 999)] I I50 := hF.trans hf50 rfl rfl
        have hc50 := hc.mv ka hf50 rfl
        exact r_iret hC hQ hlk hr rfl (by decide) (by decide) dX8_tell_29 ⟨_, _, rfl, rfl, ⟨hs50, hF50, (by exact hc50), (by omega)⟩⟩
  · refine r_if_ne hC (tgt := 14) dX8_tell_5 (by decide) (fun c51 => ?_) (fun c51 => ?_)
    · exfalso; omega
    refine r_aload_n hC dX8_tell_8 0 rfl ?_
    refine r_iconst hC (v := (1)) dX8_tell_9 (by decide) (by decide) (fun x52_ e52 t52 => ?_)
    refine r_callV hC (As := [.int x52_]) (rest := []) (ci := 8) (c_X8_refuse g (xL X) K len I J R hs a0 ka0 x52_) mT_2_133 mT_1_1 mT_2_130 mT_2_132 mP_0 okX8_refuse ⟨by decide, by decide⟩ rfl (by show kO (K a0) = _; rw [ka0]; rfl) rfl rfl (Nat.le_of_ble_eq_true rfl) ⟨by decide, by decide⟩ dX8_tell_10 (aI1 (F := fun st M => P g X 7 13 [(0, .ref a0), (1, .int x1), (2, .int x2)] st _ _ M) (M := (K, len, I, J, R)) fun x53_ I53 h53 => ?_)
    obtain ⟨hs53, hf53, k53_0, k53_1⟩ := h53
    show P g X 7 13 [(0, .ref a0), (1, .int x1), (2, .int x2)] [.int x53_] _ _ (K, len, I53, J, R)
    have hF53 : Fr K [(1, 5), (1, 6), (9, 12), (43, 999), (50, 999), (51, 999), (52, 999), (53, 999), (54, 999), (67, 999)] I I53 := hF.trans hf53 rfl rfl
    have hc53 := hc.mv ka hf53 rfl
    exact r_iret hC hQ hlk hr rfl (by decide) (by decide) dX8_tell_13 ⟨_, _, rfl, rfl, ⟨hs53, hF53, (by exact hc53), (by omega)⟩⟩

